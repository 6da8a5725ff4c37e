/** Promises 45 to 54: predictions, averages and the written text. */
final class PredictionTests {
    private static final String TEXT = "house 3 6 2;lodger ann 0 10 1 20;lodger bob 2 5 0 3;roster 0 0 0;roster 0 1 1;"
            + "roster 1 2 0;exempt 1 3;storm 0 5;meals 3;gulls 1";

    private PredictionTests() {
    }

    static void run() {
        beforeLoad();
        wrongNumbers();
        asSimulated();
        untilDark();
        untilGone();
        averages();
        writtenRoster();
        writtenLodger();
        writtenTextRemains();
    }

    private static void beforeLoad() {
        WatchLodgers lodgers = new WatchLodgers();
        Check.noState("P45", () -> lodgers.energyAfter(9, 301));
        Check.noState("P46", () -> lodgers.coinsAfter(9, 301));
        Check.noState("P47", () -> lodgers.darkAfter(-1));
        Check.noState("P48", lodgers::watchesUntilDark);
        Check.noState("P49", () -> lodgers.watchesUntilGone(9));
        Check.noState("P50", lodgers::meanEnergy);
        Check.noState("P51", lodgers::darkShare);
        Check.noState("P52", () -> lodgers.writeRoster(7));
        Check.noState("P53", () -> lodgers.writeLodger(9));
        Check.noIndex("P54", () -> lodgers.textByte(0));
    }

    private static void wrongNumbers() {
        WatchLodgers lodgers = Check.loaded(TEXT);
        for (int number : new int[] {-1, 2, Integer.MAX_VALUE, Integer.MIN_VALUE}) {
            Check.noIndex("P45 " + number, () -> lodgers.energyAfter(number, 301));
            Check.noIndex("P46 " + number, () -> lodgers.coinsAfter(number, -1));
            Check.noIndex("P49 " + number, () -> lodgers.watchesUntilGone(number));
            Check.noIndex("P53 " + number, () -> lodgers.writeLodger(number));
        }
        for (int watches : new int[] {-1, 301, Integer.MAX_VALUE, Integer.MIN_VALUE}) {
            Check.noArgument("P45 " + watches, () -> lodgers.energyAfter(1, watches));
            Check.noArgument("P46 " + watches, () -> lodgers.coinsAfter(1, watches));
            Check.noArgument("P47 " + watches, () -> lodgers.darkAfter(watches));
        }
        Check.noIndex("P52 -1", () -> lodgers.writeRoster(-1));
        Check.noIndex("P52 7", () -> lodgers.writeRoster(7));
    }

    private static void asSimulated() {
        WatchLodgers lodgers = Check.loaded(TEXT);
        Check.same("P45 after none", lodgers.energyAfter(0, 0), 10);
        Check.same("P46 after none", lodgers.coinsAfter(1, 0), 3);
        Check.same("P47 after none", lodgers.darkAfter(0), 0);
        WatchLodgers ahead = Check.loaded(TEXT);
        for (int watches = 1; watches <= 300; watches++) {
            ahead.passWatches(1);
            if (watches < 20 || watches > 290) {
                Check.same("P45 after " + watches, lodgers.energyAfter(1, watches), ahead.energy(1));
                Check.same("P46 after " + watches, lodgers.coinsAfter(0, watches), ahead.coins(0));
                Check.same("P47 after " + watches, lodgers.darkAfter(watches), ahead.darkWatches());
            }
        }
        Check.same("the house does not change", lodgers.watchesPassed(), 0);
        Check.same("nothing to undo", lodgers.undoable(), 0);
        Check.same("energy remains", lodgers.energy(0), 10);
        Check.same("entries remain", lodgers.rosterSize(), 3);
        // ann keeps watches 0 and 2 at 5 each and eats the first of the 2 meals that the gull leaves,
        // then 5 of storm less 3 for a blanket
        Check.same("P45 a day", lodgers.energyAfter(0, 4), 10 - 10 + 6 - 2);
        // bob keeps watch 1 at 3, eats, then 5 of storm
        Check.same("P45 a day", lodgers.energyAfter(1, 4), 5 - 3 + 6 - 5);
        Check.same("P46 a day", lodgers.coinsAfter(0, 4), 20 + 4 - 2);
        Check.same("P47 a day", lodgers.darkAfter(4), 1);
    }

    private static void untilDark() {
        Check.same("P48", Check.loaded(TEXT).watchesUntilDark(), 4);
        Check.same("P48 at once", Check.loaded("house 2 0 0;lodger a 1 0 0 0").watchesUntilDark(), 1);
        WatchLodgers dark = Check.loaded("house 2 0 0;lodger a 1 30 0 0;watches 4");
        Check.same("P48 dark ones before do not count", dark.watchesUntilDark(), 2);
        // two lodgers on the top floor keep two watches a day at 1 each and eat 6: never dark while meals last
        String kept = "house 2 0 0;lodger a 1 30 0 0;lodger b 1 30 0 0;repeat 9(repeat 9(meals 100))";
        Check.same("P48 none in 300", Check.loaded(kept).watchesUntilDark(), WatchLodgers.NONE);
        WatchLodgers both = Check.loaded(TEXT);
        both.darkAfter(300);
        Check.same("P48 from now, not from another prediction", both.watchesUntilDark(), 4);
        Check.same("P48 again", both.watchesUntilDark(), 4);
        both.passWatches(1);
        Check.same("P48 one watch later", both.watchesUntilDark(), 3);
        Check.same("P48 the house does not change", both.watchesPassed(), 1);
        untilDarkAfterExactly300();
    }

    /** Meals that last for more than 300 watches, and then the first dark one comes nearer watch by watch. */
    private static void untilDarkAfterExactly300() {
        WatchLodgers lodgers = Check.loaded("house 2 0 0;lodger a 1 30 0 0;lodger b 1 30 0 0;"
                + "repeat 9(repeat 2(meals 100));watches 1");
        int passed = 0;
        while (lodgers.watchesUntilDark() == WatchLodgers.NONE && passed < 400) {
            lodgers.passWatches(1);
            passed++;
        }
        Check.that("more than 300 at first", passed > 0);
        Check.same("P48 after exactly 300", lodgers.watchesUntilDark(), 300);
        Check.same("P47 after 299", lodgers.darkAfter(299), 0);
        Check.same("P47 after 300", lodgers.darkAfter(300), 1);
        for (int call = 0; call < 5; call++) {
            lodgers.passWatches(59);
        }
        lodgers.passWatches(4);
        Check.same("the 299th is not dark", lodgers.darkWatches(), 0);
        Check.same("P48 the next watch", lodgers.watchesUntilDark(), 1);
        Check.same("the 300th is dark", lodgers.passWatches(1), 1);
    }

    private static void untilGone() {
        WatchLodgers lodgers = Check.loaded("house 2 50 0;lodger a 1 0 0 0;lodger b 1 0 0 200;lodger c 1 0 0 49");
        Check.same("P49 the end of day 1", lodgers.watchesUntilGone(0), 8);
        Check.same("P49 the end of day 5", lodgers.watchesUntilGone(1), 24);
        Check.same("P49 with a part of the rent", lodgers.watchesUntilGone(2), 12 - 4);
        lodgers.passWatches(7);
        Check.same("P49 the next watch", lodgers.watchesUntilGone(0), 1);
        lodgers.passWatches(1);
        Check.same("P49 gone now", lodgers.watchesUntilGone(0), 0);
        Check.same("P49 never", Check.loaded("house 2 0 0;lodger a 1 0 0 0").watchesUntilGone(0), WatchLodgers.NONE);
        // a rent of 1 without coins and watches: a debt of 51 after 51 days, 204 watches
        String poor = "house 2 1 0;lodger a 1 0 0 ";
        Check.same("P49 far", Check.loaded(poor + "0").watchesUntilGone(0), 204);
        Check.same("P49 after exactly 300", Check.loaded(poor + "24").watchesUntilGone(0), 300);
        Check.same("P49 not after 300", Check.loaded(poor + "25").watchesUntilGone(0), WatchLodgers.NONE);
    }

    private static void averages() {
        WatchLodgers lodgers = Check.loaded(TEXT);
        Check.same("P50 mean", lodgers.meanEnergy(), 7.5);
        Check.same("P50 mean of three", Check.loaded("house 2 0 0;lodger a 0 1 0 0;lodger b 0 0 0 0;lodger c 0 0 0 0")
                .meanEnergy(), 1.0 / 3.0);
        WatchLodgers gone = Check.loaded("house 2 50 0;lodger a 1 20 0 0;lodger b 1 5 0 200;meals 100;watches 8");
        Check.same("P50 of those who are present", gone.meanEnergy(), (double) gone.energy(1));
        gone.passWatches(60);
        Check.same("all are gone", gone.presentCount(), 0);
        Check.same("P50 of none", gone.meanEnergy(), 0.0);
        Check.same("P51 of none", lodgers.darkShare(), 0.0f);
        lodgers.passWatches(3);
        Check.same("P51 none dark", lodgers.darkShare(), 0.0f);
        Check.same("P51 a third", Check.loaded("house 2 0 0;lodger a 1 30 0 0;watches 3").darkShare(), 1.0f / 3.0f);
        Check.same("P51 all dark", Check.loaded("house 2 0 0;lodger a 1 0 0 0;watches 3").darkShare(), 1.0f);
    }

    private static void writtenRoster() {
        WatchLodgers lodgers = Check.loaded(TEXT + ";lodger abcdef 0 0 0 0;roster 3 0 2;roster 3 1 2;roster 3 2 2;"
                + "roster 3 3 2");
        Check.same("P52 length", lodgers.writeRoster(0), 11);
        Check.same("P52 text", Check.written(lodgers, 11), "ann bob - -");
        Check.same("P52 no entries", Check.written(lodgers, lodgers.writeRoster(2)), "- - - -");
        Check.same("P52 longest", lodgers.writeRoster(3), 27);
        Check.same("P52 longest", Check.written(lodgers, 27), "abcdef abcdef abcdef abcdef");
        Check.noIndex("P54 behind the text", () -> lodgers.textByte(27));
        Check.noIndex("P54 negative", () -> lodgers.textByte(-1));
    }

    private static void writtenLodger() {
        WatchLodgers lodgers = Check.loaded("house 2 48 0;lodger a 1 0 0 0;lodger bobby 1 30 0 200");
        Check.same("P53 present", Check.written(lodgers, lodgers.writeLodger(1)), "bobby:30");
        Check.same("P53 energy of one digit", Check.written(lodgers, lodgers.writeLodger(0)), "a:0");
        lodgers.passWatches(4);
        Check.same("P53 a debt", Check.written(lodgers, lodgers.writeLodger(0)), "a:0-48");
        lodgers.passWatches(4);
        Check.same("P53 gone", Check.written(lodgers, lodgers.writeLodger(0)), "a!:0-96");
        WatchLodgers deepest = Check.loaded("house 2 50 0;lodger a 1 0 0 0;watches 8");
        Check.same("P53 the greatest debt", Check.written(deepest, deepest.writeLodger(0)), "a!:0-100");
        Check.noIndex("P54 behind the text", () -> deepest.textByte(8));
    }

    private static void writtenTextRemains() {
        WatchLodgers lodgers = Check.loaded(TEXT);
        int length = lodgers.writeLodger(0);
        lodgers.save(0);
        lodgers.bringMeals(1);
        lodgers.undo();
        lodgers.restore(0);
        Check.noIndex("a refused call", () -> lodgers.writeRoster(7));
        Check.load(lodgers, "house 2 0 0;lodger q 0 0 0 0");
        Check.noArgument("a refused text", () -> Check.load(lodgers, "house"));
        Check.same("P54 remains", Check.written(lodgers, length), "ann:10");
        Check.noIndex("P54 its end remains", () -> lodgers.textByte(length));
        lodgers.writeLodger(0);
        Check.same("P54 another text", Check.written(lodgers, 3), "q:0");
        Check.noIndex("P54 the end of the other text", () -> lodgers.textByte(3));
    }
}
