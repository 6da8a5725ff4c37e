/** Promises 7 to 44: what is told of the house, the lodgers, the roster and the next watch. */
final class HouseTests {
    private static final String TEXT = "house 4 9 5;lodger ann 0 10 1 20;lodger bobby 3 5 0 3;lodger z 2 30 3 200;"
            + "roster 2 1 1;roster 0 0 0;roster 2 0 1;exempt 1 3;exempt 0 3;storm 6 8;meals 70;gulls 4";

    private HouseTests() {
    }

    static void run() {
        beforeLoad();
        house();
        time();
        lodgers();
        roster();
        busiest();
        wrongNumbers();
    }

    private static void beforeLoad() {
        WatchLodgers lodgers = new WatchLodgers();
        Runnable[] calls = {
            lodgers::watchesPassed, lodgers::day, lodgers::weekday, lodgers::watch, lodgers::floors, lodgers::rent,
            lodgers::wage, lodgers::meals, lodgers::gulls, lodgers::fund, () -> lodgers.storm(-1), lodgers::darkWatches,
            lodgers::substitutions, lodgers::inconsistencies, lodgers::lodgerCount, lodgers::presentCount,
            () -> lodgers.lodgerLetter(-1, 0), () -> lodgers.isPresent(0), () -> lodgers.floorOf(9),
            () -> lodgers.energy(0), () -> lodgers.blankets(-1), () -> lodgers.coins(8), () -> lodgers.debt(0),
            () -> lodgers.watchesOf(0), () -> lodgers.watchesToday(0), () -> lodgers.rentToday(0), lodgers::rosterSize,
            () -> lodgers.entryAt(-1), () -> lodgers.rostered(7, 4), () -> lodgers.entriesOf(0),
            () -> lodgers.isExempt(0, 4), lodgers::exemptionCount, () -> lodgers.cost(0), () -> lodgers.obstacle(0),
            lodgers::nextKeeper, lodgers::isNextSubstitute, lodgers::previousKeeper, lodgers::busiestLodger,
        };
        for (int call = 0; call < calls.length; call++) {
            Check.noState("P" + (7 + call) + " before load", calls[call]);
        }
        Check.noArgument("a refused text", () -> Check.load(lodgers, "house 2 2 2"));
        for (int call = 0; call < calls.length; call++) {
            Check.noState("P" + (7 + call) + " after a refused text", calls[call]);
        }
    }

    private static void house() {
        WatchLodgers lodgers = Check.loaded(TEXT);
        Check.same("P11 floors", lodgers.floors(), 4);
        Check.same("P12 rent", lodgers.rent(), 9);
        Check.same("P13 wage", lodgers.wage(), 5);
        Check.same("P14 meals", lodgers.meals(), 70);
        Check.same("P15 gulls", lodgers.gulls(), 4);
        Check.same("P16 fund", lodgers.fund(), 0);
        Check.same("P17 storm", lodgers.storm(6), 8);
        Check.same("P17 no storm", lodgers.storm(0), 0);
        Check.same("P18 dark", lodgers.darkWatches(), 0);
        Check.same("P19 substitutions", lodgers.substitutions(), 0);
        Check.same("P20 inconsistencies", lodgers.inconsistencies(), 0);
        lodgers.passWatches(4);
        // ann keeps watch 0, bobby 1 and z 2; watch 3 is dark: ann and bobby are exempt, and z kept the one before
        Check.same("P16 rent in the fund", lodgers.fund(), 7 + 7 + 7);
        Check.same("P20 inconsistencies", lodgers.inconsistencies(), 0);
    }

    private static void time() {
        WatchLodgers lodgers = Check.loaded(TEXT);
        for (int passed = 0; passed <= 90; passed++) {
            Check.same("P7 watchesPassed", lodgers.watchesPassed(), passed);
            Check.same("P8 day", lodgers.day(), passed / 4);
            Check.same("P9 weekday", lodgers.weekday(), passed / 4 % 7);
            Check.same("P10 watch", lodgers.watch(), passed % 4);
            lodgers.passWatches(1);
        }
        Check.same("P7 dark ones included", Check.loaded("house 2 0 0;lodger a 0 0 0 0;watches 9").watchesPassed(), 9);
    }

    private static void lodgers() {
        WatchLodgers lodgers = Check.loaded(TEXT);
        Check.same("P21 lodgerCount", lodgers.lodgerCount(), 3);
        Check.same("P22 presentCount", lodgers.presentCount(), 3);
        Check.same("P23 letter", lodgers.lodgerLetter(1, 4), 'y');
        Check.same("P23 behind the name", lodgers.lodgerLetter(1, 5), WatchLodgers.NONE);
        Check.same("P23 negative index", lodgers.lodgerLetter(1, -1), WatchLodgers.NONE);
        Check.same("P23 greatest index", lodgers.lodgerLetter(0, Integer.MAX_VALUE), WatchLodgers.NONE);
        Check.that("P24 present", lodgers.isPresent(2));
        Check.same("P25 floor", lodgers.floorOf(1), 3);
        Check.same("P26 energy", lodgers.energy(1), 5);
        Check.same("P27 blankets", lodgers.blankets(2), 3);
        Check.same("P28 coins", lodgers.coins(2), 200);
        Check.same("P29 debt", lodgers.debt(1), 0);
        Check.same("P30 watches", lodgers.watchesOf(0), 0);
        Check.same("P31 watches today", lodgers.watchesToday(0), 0);
        Check.same("P32 rent today", lodgers.rentToday(0), 9);
        lodgers.passWatches(3);
        Check.same("P31 watches today", lodgers.watchesToday(0), 1);
        lodgers.passWatches(1);
        Check.same("P31 watches today, a new day", lodgers.watchesToday(0), 0);
        Check.same("P30 watches, a new day", lodgers.watchesOf(0), 1);
    }

    private static void roster() {
        WatchLodgers lodgers = Check.loaded(TEXT);
        Check.same("P33 rosterSize", lodgers.rosterSize(), 3);
        Check.same("P34 first", lodgers.entryAt(0), 9);
        Check.same("P34 second", lodgers.entryAt(1), 0);
        Check.same("P34 third", lodgers.entryAt(2), 8);
        Check.same("P35 rostered", lodgers.rostered(2, 1), 1);
        Check.same("P35 no entry", lodgers.rostered(1, 2), WatchLodgers.NONE);
        Check.same("P36 two entries", lodgers.entriesOf(1), 2);
        Check.same("P36 no entry", lodgers.entriesOf(2), 0);
        Check.that("P37 exempt", lodgers.isExempt(1, 3));
        Check.that("P37 not exempt", !lodgers.isExempt(1, 2));
        Check.that("P37 another lodger", !lodgers.isExempt(2, 3));
        Check.same("P38 exemptions", lodgers.exemptionCount(), 2);
    }

    private static void busiest() {
        WatchLodgers lodgers = Check.loaded("house 2 50 0;lodger a 1 30 0 0;lodger b 1 30 0 200;roster 0 0 1");
        Check.same("P44 a tie of none", lodgers.busiestLodger(), 0);
        lodgers.passWatches(1);
        Check.same("P44 the most watches", lodgers.busiestLodger(), 1);
        lodgers.passWatches(1);
        Check.same("P44 the smallest number on a tie", lodgers.busiestLodger(), 0);
        WatchLodgers gone = Check.loaded("house 2 50 0;lodger a 1 30 0 0;lodger b 1 30 0 0;watches 5");
        gone.passWatches(3);
        Check.same("all are gone", gone.presentCount(), 0);
        Check.same("P44 gone ones too", gone.busiestLodger(), 0);
        Check.same("P41 all are gone", gone.nextKeeper(), WatchLodgers.NONE);
    }

    private static void wrongNumbers() {
        WatchLodgers lodgers = Check.loaded(TEXT);
        int[] wrong = {-1, Integer.MIN_VALUE, Integer.MAX_VALUE, 3, 4, 7, 8};
        for (int number : wrong) {
            Check.noIndex("P23 " + number, () -> lodgers.lodgerLetter(number, 0));
            Check.noIndex("P24 " + number, () -> lodgers.isPresent(number));
            Check.noIndex("P25 " + number, () -> lodgers.floorOf(number));
            Check.noIndex("P26 " + number, () -> lodgers.energy(number));
            Check.noIndex("P27 " + number, () -> lodgers.blankets(number));
            Check.noIndex("P28 " + number, () -> lodgers.coins(number));
            Check.noIndex("P29 " + number, () -> lodgers.debt(number));
            Check.noIndex("P30 " + number, () -> lodgers.watchesOf(number));
            Check.noIndex("P31 " + number, () -> lodgers.watchesToday(number));
            Check.noIndex("P32 " + number, () -> lodgers.rentToday(number));
            Check.noIndex("P34 " + number, () -> lodgers.entryAt(number));
            Check.noIndex("P36 " + number, () -> lodgers.entriesOf(number));
            Check.noIndex("P37 " + number, () -> lodgers.isExempt(number, 0));
            Check.noIndex("P39 " + number, () -> lodgers.cost(number));
            Check.noIndex("P40 " + number, () -> lodgers.obstacle(number));
            if (number != 3) {
                Check.noIndex("P35 watch " + number, () -> lodgers.rostered(0, number));
                Check.noIndex("P37 watch " + number, () -> lodgers.isExempt(0, number));
            }
            if (number < 3 || number > 6) {
                Check.noIndex("P17 " + number, () -> lodgers.storm(number));
                Check.noIndex("P35 weekday " + number, () -> lodgers.rostered(number, 0));
            }
        }
        Check.noIndex("P34 no entries", () -> Check.loaded("house 2 0 0;lodger a 0 0 0 0").entryAt(0));
    }
}
