/** Promises 1 to 65: what each call answers at its least and its greatest. The promise's words stand above the test. */
final class AnswerBoundaries {
    private static final String IDLE = ";exempt 0 0;exempt 0 1;exempt 0 2;exempt 0 3";
    private static final int NONE = WatchLodgers.NONE;
    private static final int SPACES = 0x20202020;

    private AnswerBoundaries() {
    }

    static void run() {
        emptyAtFirst();
        appendUpTo600();
        appendEachByte();
        appendRefused();
        loadLengths();
        loadEmptiesTheBuffer();
        storedError();
        counters();
        fundAndMeals();
        inconsistencies();
        presentCounts();
        lodgerLetters();
        watchesKept();
        rentToday();
        rosterAndExemptions();
        nextAndPreviousKeeper();
        busiestLodger();
        predictionOfNone();
        predictionOf300();
        untilDark();
        untilGone();
        meanEnergy();
        darkShare();
        writtenRosters();
        writtenLodgers();
        textBytes();
        passedWatches();
        assigned();
        cleared();
        exempted();
        blanketsGiven();
        mealsBrought();
        stormsSet();
        savedAndRestored();
    }

    /** P1 "Creates an object without a house and with an empty input buffer." */
    private static void emptyAtFirst() {
        WatchLodgers lodgers = new WatchLodgers();
        Check.same("P1 an empty input buffer", lodgers.bufferLength(), 0);
        Check.noState("P1 without a house", lodgers::lodgerCount);
        Check.same("P4 no such call", lodgers.parseError(), 0);
        Check.same("P5 no error", lodgers.errorPosition(), NONE);
        Check.same("P63 no changes", lodgers.undoable(), 0);
        lodgers.append(1, 2, 3, 4, 5);
        Check.same("P1 each object has its own buffer", new WatchLodgers().bufferLength(), 0);
    }

    /** P2 "Returns the new length of the input buffer; NONE, with nothing appended, if it would exceed 600." */
    private static void appendUpTo600() {
        WatchLodgers lodgers = new WatchLodgers();
        for (int length = 20; length <= 600; length += 20) {
            Check.same("P2 the new length", lodgers.append(-1, 0, Integer.MIN_VALUE, Integer.MAX_VALUE, 1), length);
            Check.same("P6 the new length", lodgers.bufferLength(), length);
        }
        for (int call = 0; call < 3; call++) {
            Check.same("P2 it would exceed 600", lodgers.append(0, 0, 0, 0, 0), NONE);
            Check.same("P6 nothing appended", lodgers.bufferLength(), 600);
        }
    }

    /** P2 "Appends 20 bytes .. the four bytes of each parameter in order, most significant byte first." */
    private static void appendEachByte() {
        for (int at = 0; at < 20; at++) {
            for (int sign : new int[] {0, '@', 127, 128, 255}) {
                int[] words = {SPACES, SPACES, SPACES, SPACES, SPACES};
                int shift = 24 - at % 4 * 8;
                words[at / 4] = words[at / 4] & ~(255 << shift) | sign << shift;
                WatchLodgers lodgers = new WatchLodgers();
                lodgers.append(words[0], words[1], words[2], words[3], words[4]);
                Check.noArgument("P2 byte " + sign + " at " + at, () -> lodgers.load(20));
                Check.same("P2 byte " + sign + " at " + at, lodgers.errorPosition(), at);
            }
        }
    }

    /** P2 "with nothing appended" */
    private static void appendRefused() {
        WatchLodgers lodgers = new WatchLodgers();
        for (int call = 0; call < 30; call++) {
            lodgers.append(SPACES, SPACES, SPACES, SPACES, SPACES);
        }
        lodgers.append(-1, -1, -1, -1, -1);
        Check.noArgument("P3 600 spaces", () -> lodgers.load(600));
        Check.same("P2 only spaces", lodgers.errorPosition(), 600);
        Check.same("P2 after the buffer was full", lodgers.append(-1, 0, 0, 0, 0), 20);
        Check.noArgument("P3 another text", () -> lodgers.load(20));
        Check.same("P2 the first byte again", lodgers.errorPosition(), 0);
    }

    /** P3 "Throws IndexOutOfBoundsException if length is negative or greater than the buffer length; the buffer and the
     * stored error remain" */
    private static void loadLengths() {
        WatchLodgers lodgers = new WatchLodgers();
        Check.noArgument("P3 0 of 0 bytes", () -> lodgers.load(0));
        Check.same("P4 0 of 0 bytes", lodgers.parseError(), 1);
        Check.noIndex("P3 1 of 0 bytes", () -> lodgers.load(1));
        Check.noArgument("P3 no lodger", () -> Check.load(lodgers, "house 2 0 0"));
        Check.feed(lodgers, "house 2 0 0;lodger a 0 0 0 0");
        for (int length : new int[] {-1, 41, 600, 601, Integer.MIN_VALUE, Integer.MAX_VALUE}) {
            Check.noIndex("P3 " + length + " of 40 bytes", () -> lodgers.load(length));
            Check.same("P3 the buffer remains", lodgers.bufferLength(), 40);
            Check.same("P3 the stored error remains", lodgers.parseError(), 4);
            Check.same("P3 the stored position remains", lodgers.errorPosition(), 11);
        }
        Check.same("P3 40 of 40 bytes", lodgers.load(40), 1);
        Check.feed(lodgers, "house 2 0 0;lodger a 0 0 0 0");
        Check.same("P3 28 of 40 bytes", lodgers.load(28), 1);
        Check.noIndex("P3 28 bytes again", () -> lodgers.load(28));
        Check.same("P4 a success remains", lodgers.parseError(), 0);
        Check.feed(lodgers, "house 2 0 0;lodger a 0 0 0 0");
        Check.noArgument("P3 0 of 40 bytes", () -> lodgers.load(0));
        Check.same("P5 0 of 40 bytes", lodgers.errorPosition(), 0);
    }

    /** P3 "The buffer is empty afterwards, also after a parse error." */
    private static void loadEmptiesTheBuffer() {
        WatchLodgers lodgers = new WatchLodgers();
        String text = "house 2 0 0;lodger a 0 0 0 0";
        Check.feed(lodgers, text + "                                  ");
        Check.same("P3 bytes behind the text", lodgers.load(text.length()), 1);
        Check.same("P3 empty after a success", lodgers.bufferLength(), 0);
        Check.feed(lodgers, text);
        Check.noArgument("P3 a text with an error", () -> lodgers.load(1));
        Check.same("P3 empty after a parse error", lodgers.bufferLength(), 0);
        Check.noIndex("P3 nothing is left", () -> lodgers.load(1));
        for (int call = 1; call <= 30; call++) {
            Check.same("P3 room for 600 bytes again", lodgers.append(0, 0, 0, 0, 0), 20 * call);
        }
    }

    /** P4 "the error code of the most recent call of load() that did not throw IndexOutOfBoundsException; 0 if it
     * succeeded"; P5 "NONE if parseError() is 0" */
    private static void storedError() {
        WatchLodgers lodgers = new WatchLodgers();
        String[] texts = {"zap", "house 2 0 99", "house 2 0 0;lodger abcdefg", "house 2 0 0"};
        int[] positions = {0, 10, 19, 11};
        for (int code = 1; code <= 4; code++) {
            String text = texts[code - 1];
            Check.noArgument("P3 code " + code, () -> Check.load(lodgers, text));
            Check.same("P4 code", lodgers.parseError(), code);
            Check.same("P5 position", lodgers.errorPosition(), positions[code - 1]);
            Check.noIndex("P3 too long", () -> lodgers.load(1));
            Check.same("P4 of the call before", lodgers.parseError(), code);
            Check.load(lodgers, "house 2 0 0;lodger a 0 0 0 0");
            Check.same("P4 it succeeded", lodgers.parseError(), 0);
            Check.same("P5 it succeeded", lodgers.errorPosition(), NONE);
        }
    }

    /** P7 "the number of watches that were simulated, dark ones included"; P8, P9, P10 of the next watch */
    private static void counters() {
        WatchLodgers lodgers = Check.loaded("house 2 0 0;lodger a 0 0 0 0");
        int[][] passedDayWeekdayWatch = {{3, 0, 0, 3}, {4, 1, 1, 0}, {27, 6, 6, 3}, {28, 7, 0, 0}, {55, 13, 6, 3},
            {56, 14, 0, 0}};
        int passed = 0;
        for (int[] row : passedDayWeekdayWatch) {
            lodgers.passWatches(row[0] - passed);
            passed = row[0];
            Check.same("P7 watchesPassed", lodgers.watchesPassed(), passed);
            Check.same("P8 day", lodgers.day(), row[1]);
            Check.same("P9 weekday", lodgers.weekday(), row[2]);
            Check.same("P10 watch", lodgers.watch(), row[3]);
        }
        Check.same("P18 all were dark", lodgers.darkWatches(), 56);
        Check.same("P19 none was kept", lodgers.substitutions(), 0);
        for (int call = 0; call < 400; call++) {
            lodgers.passWatches(60);
        }
        Check.same("P7 as many as an object can simulate", lodgers.watchesPassed(), 24056);
        Check.same("P9 weekday", lodgers.weekday(), 24056 / 4 % 7);
        Check.same("P18 dark", lodgers.darkWatches(), 24056);
        Check.same("P20 none", lodgers.inconsistencies(), 0);
    }

    /** P14 "the number of meals in the pantry"; P16 "the coins in the fund" */
    private static void fundAndMeals() {
        WatchLodgers lodgers = Check.loaded("house 2 50 0;lodger a 0 0 0 200;lodger b 0 0 0 200;watches 4");
        Check.same("P16 the rents of a day", lodgers.fund(), 100);
        for (int call = 0; call < 100; call++) {
            lodgers.bringMeals(100);
        }
        Check.same("P14 many meals", lodgers.meals(), 10000);
    }

    /** P20 "always 0" */
    private static void inconsistencies() {
        WatchLodgers lodgers = Check.loaded("house 4 9 3;lodger a 0 9 0 9;lodger b 3 30 2 0;lodger c 2 5 0 200;"
                + "roster 1 1 1;roster 6 0 0;exempt 0 3;gale 4;meals 80;lend 2 0 50");
        for (int call = 0; call < 40; call++) {
            lodgers.passWatches(1 + call % 5);
            Check.same("P20 after " + lodgers.watchesPassed(), lodgers.inconsistencies(), 0);
        }
        Check.that("P20 with dark watches", lodgers.darkWatches() > 0);
        lodgers.undo();
        Check.same("P20 after undo", lodgers.inconsistencies(), 0);
        Check.same("P20 after pay and readmit", Check.loaded("house 2 50 0;lodger a 0 0 0 0;lodger b 0 0 0 200;"
                + "roster 3 3 0;exempt 0 0;watches 4;lend 1 0 7;pay 0;watches 5;readmit 0;watches 60").inconsistencies(), 0);
    }

    /** P21 "the number of lodgers, present or gone"; P22 "the number of lodgers who are present" */
    private static void presentCounts() {
        WatchLodgers lodgers = Check.loaded("house 2 50 0" + HouseBoundaries.lodgers(8));
        Check.same("P22 all", lodgers.presentCount(), 8);
        lodgers.passWatches(8);
        Check.same("P21 gone ones too", lodgers.lodgerCount(), 8);
        Check.same("P22 none", lodgers.presentCount(), 0);
        WatchLodgers last = Check.loaded("house 2 50 0" + HouseBoundaries.lodgers(7) + ";lodger h 0 0 0 200;watches 8");
        Check.same("P22 only the last", last.presentCount(), 1);
        Check.that("P24 the last", last.isPresent(7));
        Check.that("P24 the first", !last.isPresent(0));
    }

    /** P23 "NONE if the index is negative or not less than the length of the name" */
    private static void lodgerLetters() {
        WatchLodgers lodgers = Check.loaded("house 2 0 0;lodger az 0 0 0 0;lodger zyxwvu 0 0 0 0");
        int[] none = {-1, 2, 3, 6, Integer.MIN_VALUE, Integer.MAX_VALUE};
        for (int index : none) {
            Check.same("P23 index " + index, lodgers.lodgerLetter(0, index), NONE);
        }
        Check.same("P23 the first letter", lodgers.lodgerLetter(0, 0), 97);
        Check.same("P23 the last letter", lodgers.lodgerLetter(0, 1), 122);
        Check.same("P23 the sixth letter", lodgers.lodgerLetter(1, 5), 117);
        Check.same("P23 behind the sixth letter", lodgers.lodgerLetter(1, 6), NONE);
    }

    /** P30 "the number of watches that a lodger has kept"; P31 "that a lodger has kept today" */
    private static void watchesKept() {
        WatchLodgers lodgers = Check.loaded("house 2 0 0;lodger a 1 30 0 0;lodger b 1 0 0 0;meals 50");
        int[] ever = {1, 1, 2, 2, 3, 3, 4, 4};
        int[] today = {1, 1, 2, 0, 1, 1, 2, 0};
        for (int watch = 0; watch < 8; watch++) {
            lodgers.setExempt(1, lodgers.watch(), true);
            lodgers.passWatches(1);
            Check.same("P30 after " + watch, lodgers.watchesOf(0), ever[watch]);
            Check.same("P31 after " + watch, lodgers.watchesToday(0), today[watch]);
            Check.same("P30 of another", lodgers.watchesOf(1), 0);
        }
    }

    /** P32 "what a lodger would owe if the day ended now, without the debt; 0 if the lodger is gone" */
    private static void rentToday() {
        for (int rent : new int[] {0, 1, 2, 3, 4, 5, 50}) {
            WatchLodgers lodgers = Check.loaded("house 2 " + rent + " 0;lodger a 1 30 0 0");
            Check.same("P32 no watch", lodgers.rentToday(0), rent);
            lodgers.passWatches(1);
            Check.same("P32 one watch", lodgers.rentToday(0), Math.max(0, rent - 2));
            lodgers.passWatches(2);
            Check.same("P32 two watches", lodgers.rentToday(0), Math.max(0, rent - 4));
            lodgers.passWatches(1);
            Check.same("P32 a new day, without the debt", lodgers.rentToday(0), rent);
        }
        Check.same("P32 gone", Check.loaded("house 2 50 0;lodger a 1 0 0 0;watches 8").rentToday(0), 0);
        Check.same("P29 the greatest debt", Check.loaded("house 2 50 0;lodger a 1 0 0 0;watches 8").debt(0), 100);
        Check.same("P32 with coins", Check.loaded("house 2 50 0;lodger a 1 0 0 200").rentToday(0), 50);
    }

    /** P33 to P38 at none and at all */
    private static void rosterAndExemptions() {
        WatchLodgers lodgers = Check.loaded("house 2 0 0" + HouseBoundaries.lodgers(8));
        Check.same("P33 none", lodgers.rosterSize(), 0);
        Check.same("P36 none", lodgers.entriesOf(7), 0);
        Check.same("P38 none", lodgers.exemptionCount(), 0);
        Check.same("P35 no such entry", lodgers.rostered(6, 3), NONE);
        for (int entry = 0; entry < 28; entry++) {
            lodgers.assign(entry / 4, entry % 4, 7);
        }
        for (int pair = 0; pair < 32; pair++) {
            lodgers.setExempt(pair / 4, pair % 4, true);
        }
        Check.same("P33 all", lodgers.rosterSize(), 28);
        Check.same("P34 the first", lodgers.entryAt(0), 0);
        Check.same("P34 4 times its weekday plus its watch", lodgers.entryAt(27), 27);
        Check.same("P35 the last lodger", lodgers.rostered(6, 3), 7);
        Check.same("P36 all", lodgers.entriesOf(7), 28);
        Check.same("P36 no other", lodgers.entriesOf(6), 0);
        Check.same("P38 all", lodgers.exemptionCount(), 32);
        Check.that("P37 the last", lodgers.isExempt(7, 3));
        lodgers.setExempt(7, 3, false);
        Check.that("P37 the last no more", !lodgers.isExempt(7, 3));
        Check.same("P38 all but one", lodgers.exemptionCount(), 31);
    }

    /** P41 "NONE if it would be dark"; P43 "NONE if it was dark or there was none" */
    private static void nextAndPreviousKeeper() {
        WatchLodgers lodgers = Check.loaded("house 2 0 0;lodger a 1 9 0 0;lodger b 1 0 0 0");
        Check.same("P43 there was none", lodgers.previousKeeper(), NONE);
        Check.same("P41 the first lodger", lodgers.nextKeeper(), 0);
        Check.that("P42 without an entry", lodgers.isNextSubstitute());
        lodgers.passWatches(1);
        Check.same("P43 the first lodger", lodgers.previousKeeper(), 0);
        Check.same("P41 it would be dark", lodgers.nextKeeper(), NONE);
        Check.that("P42 it would be dark", !lodgers.isNextSubstitute());
        lodgers.passWatches(1);
        Check.same("P43 it was dark", lodgers.previousKeeper(), NONE);
        lodgers.undo();
        Check.same("P43 undone", lodgers.previousKeeper(), 0);
        WatchLodgers last = Check.loaded("house 2 0 0" + HouseBoundaries.lodgers(7) + ";lodger h 1 1 0 0");
        Check.same("P41 the last lodger", last.nextKeeper(), 7);
        WatchLodgers rostered = Check.loaded("house 2 0 0;lodger a 1 0 0 0;roster 0 0 0");
        Check.that("P42 dark with an entry", !rostered.isNextSubstitute());
    }

    /** P44 "the lodger who has kept the most watches, the smallest number on a tie" */
    private static void busiestLodger() {
        Check.same("P44 a tie of all at 0", Check.loaded("house 2 0 0" + HouseBoundaries.lodgers(8)).busiestLodger(), 0);
        Check.same("P44 only the last", Check.loaded("house 2 0 0" + HouseBoundaries.lodgers(7)
                + ";lodger h 1 1 0 0;watches 1").busiestLodger(), 7);
        String tie = "house 2 0 0;lodger a 1 0 0 0;lodger b 1 30 0 0;lodger c 1 30 0 0;roster 0 0 2;roster 0 1 1;";
        Check.same("P44 the most watches", Check.loaded(tie + "watches 1").busiestLodger(), 2);
        Check.same("P44 a tie that is not of the first", Check.loaded(tie + "watches 2").busiestLodger(), 1);
    }

    /** P45 to P47 "number of watches, 0 to 300": after 0 all is as now */
    private static void predictionOfNone() {
        WatchLodgers lodgers = Check.loaded("house 2 3 2;lodger a 1 9 0 7;lodger b 1 0 0 200;meals 9;watches 6");
        Check.same("P45 after 0", lodgers.energyAfter(0, 0), lodgers.energy(0));
        Check.same("P46 after 0", lodgers.coinsAfter(1, 0), lodgers.coins(1));
        Check.same("P47 after 0", lodgers.darkAfter(0), lodgers.darkWatches());
        int dark = lodgers.darkWatches();
        Check.that("P47 dark ones before count too", dark > 0);
        String before = Snapshot.ofHouse(lodgers);
        lodgers.energyAfter(1, 300);
        lodgers.coinsAfter(1, 300);
        lodgers.darkAfter(300);
        lodgers.watchesUntilDark();
        lodgers.watchesUntilGone(1);
        Check.same("P45 to P49 the house does not change", Snapshot.ofHouse(lodgers), before);
        Check.same("P45 to P49 are no changes", lodgers.undoable(), 0);
    }

    /** P45 to P47 "number of watches, 0 to 300": after 1 and 300 as simulated */
    private static void predictionOf300() {
        String text = "house 3 8 5;lodger a 1 9 0 7;lodger b 2 20 1 200;lodger c 0 5 0 0;roster 3 2 2;exempt 1 0;storm 2 7;"
                + "repeat 9(meals 20)";
        WatchLodgers lodgers = Check.loaded(text);
        WatchLodgers ahead = Check.loaded(text);
        int passed = 0;
        for (int watches : new int[] {1, 3, 4, 5, 60, 120, 180, 240, 299, 300}) {
            ahead.passWatches(watches - passed);
            passed = watches;
            for (int lodger = 0; lodger < 3; lodger++) {
                Check.same("P45 after " + watches, lodgers.energyAfter(lodger, watches), ahead.energy(lodger));
                Check.same("P46 after " + watches, lodgers.coinsAfter(lodger, watches), ahead.coins(lodger));
            }
            Check.same("P47 after " + watches, lodgers.darkAfter(watches), ahead.darkWatches());
        }
        Check.same("P47 all dark", Check.loaded("house 2 0 0;lodger a 0 0 0 0").darkAfter(300), 300);
        Check.same("P47 with those before", Check.loaded("house 2 0 0;lodger a 0 0 0 0;watches 60").darkAfter(300), 360);
    }

    /** P48 "the least number of watches after which the number of dark watches is greater than now; NONE if it is not
     * after 300 watches" */
    private static void untilDark() {
        Check.same("P48 the next one", Check.loaded("house 2 0 0;lodger a 0 0 0 0").watchesUntilDark(), 1);
        Check.same("P48 greater than now", Check.loaded("house 2 0 0;lodger a 0 0 0 0;watches 60").watchesUntilDark(), 1);
        Check.same("P48 the second", Check.loaded("house 2 0 0;lodger a 1 30 0 0").watchesUntilDark(), 2);
        String two = "house 2 0 0;lodger a 1 30 0 0;lodger b 1 30 0 0;";
        Check.same("P48 none", Check.loaded(two + "repeat 9(repeat 9(meals 100))").watchesUntilDark(), NONE);
        // 1800 meals last until the 300th watch from now is dark
        String meals = two + "repeat 9(repeat 2(meals 100));watches 60;watches ";
        Check.same("P48 not after 300", Check.loaded(meals + "24").watchesUntilDark(), NONE);
        Check.same("P48 after 300", Check.loaded(meals + "25").watchesUntilDark(), 300);
        Check.same("P48 after 299", Check.loaded(meals + "26").watchesUntilDark(), 299);
        // nobody keeps the last watch of a day
        WatchLodgers lodgers = Check.loaded(two + "repeat 9(repeat 9(meals 100))");
        lodgers.setExempt(0, 3, true);
        lodgers.setExempt(1, 3, true);
        Check.same("P48 the last watch of a day", lodgers.watchesUntilDark(), 4);
        lodgers.passWatches(4);
        Check.same("P48 the last watch of the next day", lodgers.watchesUntilDark(), 4);
        lodgers.passWatches(3);
        Check.same("P48 the next watch", lodgers.watchesUntilDark(), 1);
    }

    /** P49 "0 if the lodger is gone now; NONE if the lodger is not gone after 300 watches" */
    private static void untilGone() {
        String house = "house 2 1 0;lodger a 1 0 0 ";
        int[][] coinsUntil = {{0, 204}, {23, 296}, {24, 300}, {25, NONE}, {200, NONE}};
        for (int[] row : coinsUntil) {
            Check.same("P49 with " + row[0] + " coins", Check.loaded(house + row[0]).watchesUntilGone(0), row[1]);
        }
        WatchLodgers later = Check.loaded(house + "25;watches 4");
        Check.same("P49 one day later", later.watchesUntilGone(0), 300);
        later.passWatches(1);
        Check.same("P49 one watch later", later.watchesUntilGone(0), 299);
        WatchLodgers soon = Check.loaded("house 2 50 0;lodger a 1 0 0 0;watches 7");
        Check.same("P49 after the next watch", soon.watchesUntilGone(0), 1);
        soon.passWatches(1);
        Check.same("P49 gone now", soon.watchesUntilGone(0), 0);
        soon.undo();
        Check.same("P49 undone", soon.watchesUntilGone(0), 1);
    }

    /** P50 "0.0 if there are none" */
    private static void meanEnergy() {
        Check.same("P50 the least", Check.loaded("house 2 0 0;lodger a 0 0 0 0").meanEnergy(), 0.0);
        Check.same("P50 the greatest", Check.loaded("house 2 0 0;lodger a 0 30 0 0;lodger b 0 30 0 0").meanEnergy(), 30.0);
        Check.same("P50 a third", Check.loaded("house 2 0 0;lodger a 0 1 0 0;lodger b 0 0 0 0;lodger c 0 0 0 0")
                .meanEnergy(), 1.0 / 3.0);
        String gone = "house 2 50 0;lodger a 1 30 0 0" + IDLE + ";meals 9;watches 8";
        WatchLodgers none = Check.loaded(gone);
        Check.same("P50 one who is gone has energy", none.energy(0), 30);
        Check.same("P50 none present", none.meanEnergy(), 0.0);
        Check.same("P50 one present", Check.loaded(gone + ";lodger b 0 7 0 0").meanEnergy(), 7.0);
    }

    /** P51 "0.0f if there were none" */
    private static void darkShare() {
        Check.same("P51 no watches", Check.loaded("house 2 0 0;lodger a 0 0 0 0").darkShare(), 0.0f);
        Check.same("P51 all dark", Check.loaded("house 2 0 0;lodger a 0 0 0 0;watches 60").darkShare(), 1.0f);
        Check.same("P51 none dark", Check.loaded("house 2 0 0;lodger a 1 1 0 0;watches 1").darkShare(), 0.0f);
        Check.same("P51 two thirds", Check.loaded("house 2 0 0;lodger a 1 1 0 0;watches 3").darkShare(), 2.0f / 3.0f);
    }

    /** P52 "for each watch the name of the lodger of its entry, or a hyphen (byte 45) if there is no entry, with a space
     * (byte 32) between two watches" */
    private static void writtenRosters() {
        WatchLodgers lodgers = Check.loaded("house 2 0 0;lodger a 0 0 0 0;lodger abcdef 0 0 0 0;roster 0 0 0;roster 6 3 1;"
                + "roster 5 0 1;roster 5 1 1;roster 5 2 1;roster 5 3 1");
        String[] due = {"a - - -", "- - - -", "- - - -", "- - - -", "- - - -", "abcdef abcdef abcdef abcdef", "- - - abcdef"};
        for (int weekday = 0; weekday < 7; weekday++) {
            int length = lodgers.writeRoster(weekday);
            Check.same("P52 length", length, due[weekday].length());
            Check.same("P52 text", Check.written(lodgers, length), due[weekday]);
        }
        lodgers.writeRoster(0);
        Check.same("P52 a space is byte 32", lodgers.textByte(1), 32);
        Check.same("P52 a hyphen is byte 45", lodgers.textByte(2), 45);
    }

    /** P53 "an exclamation mark (byte 33) if the lodger is gone; a colon (byte 58) and the energy; and, if the debt is not
     * 0, a hyphen and the debt" */
    private static void writtenLodgers() {
        String[][] texts = {
            {"house 2 0 0;lodger a 0 0 0 0", "a:0"},
            {"house 2 0 0;lodger abcdef 0 30 0 0", "abcdef:30"},
            {"house 2 1 0;lodger a 0 0 0 0;watches 4", "a:0-1"},
            {"house 2 50 0;lodger a 0 0 0 0;watches 4", "a:0-50"},
            {"house 2 50 0;lodger a 0 0 0 0;watches 8", "a!:0-100"},
            {"house 2 17 0;lodger a 0 0 0 0;watches 12", "a!:0-51"},
            {"house 2 50 0;lodger abcdef 1 30 0 0" + IDLE + ";meals 9;watches 8", "abcdef!:30-100"},
            {"house 2 50 0;lodger a 0 0 0 0;watches 8;readmit 0", "a:0"},
        };
        for (String[] row : texts) {
            WatchLodgers lodgers = Check.loaded(row[0]);
            int length = lodgers.writeLodger(0);
            Check.same("P53 length", length, row[1].length());
            Check.same("P53 text", Check.written(lodgers, length), row[1]);
        }
        WatchLodgers gone = Check.loaded("house 2 50 0;lodger a 0 0 0 0;watches 8");
        gone.writeLodger(0);
        Check.same("P53 an exclamation mark is byte 33", gone.textByte(1), 33);
        Check.same("P53 a colon is byte 58", gone.textByte(2), 58);
        Check.same("P53 a hyphen is byte 45", gone.textByte(4), 45);
    }

    /** P54 "IndexOutOfBoundsException if there is no byte at this index; always before a text has been written" */
    private static void textBytes() {
        WatchLodgers lodgers = new WatchLodgers();
        int[] wrong = {-1, 3, 4, Integer.MIN_VALUE, Integer.MAX_VALUE};
        for (int index : new int[] {-1, 0, 1, Integer.MIN_VALUE, Integer.MAX_VALUE}) {
            Check.noIndex("P54 before load", () -> lodgers.textByte(index));
        }
        Check.load(lodgers, "house 2 0 0;lodger a 0 0 0 0");
        Check.noIndex("P54 before a text has been written", () -> lodgers.textByte(0));
        lodgers.writeLodger(0);
        for (int index : wrong) {
            Check.noIndex("P54 no byte at " + index, () -> lodgers.textByte(index));
        }
        Check.same("P54 the first byte", lodgers.textByte(0), 'a');
        Check.same("P54 the last byte", lodgers.textByte(2), '0');
    }

    /** P55 "number of watches, 1 to 60"; "Returns the number of dark watches among them." */
    private static void passedWatches() {
        WatchLodgers dark = Check.loaded("house 2 0 0;lodger a 0 0 0 0");
        Check.same("P55 1 dark", dark.passWatches(1), 1);
        Check.same("P55 60 dark", dark.passWatches(60), 60);
        Check.same("P55 among them, not before", dark.passWatches(59), 59);
        WatchLodgers kept = Check.loaded("house 2 0 0;lodger a 1 30 0 0;lodger b 1 30 0 0;repeat 9(meals 100)");
        Check.same("P55 none dark of 1", kept.passWatches(1), 0);
        Check.same("P55 none dark of 60", kept.passWatches(60), 0);
        Check.same("P7 all of them", kept.watchesPassed(), 61);
    }

    /** P56 "Returns the lodger of the entry before; NONE if the entry did not exist." */
    private static void assigned() {
        WatchLodgers lodgers = Check.loaded("house 2 0 0" + HouseBoundaries.lodgers(8));
        Check.same("P56 the first entry did not exist", lodgers.assign(0, 0, 7), NONE);
        Check.same("P56 the last entry did not exist", lodgers.assign(6, 3, 0), NONE);
        Check.same("P56 the last lodger before", lodgers.assign(0, 0, 0), 7);
        Check.same("P56 the first lodger before", lodgers.assign(6, 3, 7), 0);
        Check.same("P56 the same lodger before", lodgers.assign(6, 3, 7), 7);
        Check.same("P56 two entries", lodgers.rosterSize(), 2);
        lodgers.clear(6, 3);
        Check.same("P56 an entry that was removed", lodgers.assign(6, 3, 7), NONE);
        lodgers.undo();
        lodgers.undo();
        Check.same("P56 an entry whose removal was undone", lodgers.assign(6, 3, 0), 7);
    }

    /** P57 "Returns the lodger of the entry."; "IllegalArgumentException if there is no such entry" */
    private static void cleared() {
        WatchLodgers lodgers = Check.loaded("house 2 0 0" + HouseBoundaries.lodgers(8) + ";roster 0 0 7;roster 6 3 0");
        Check.noArgument("P57 no such watch of the weekday", () -> lodgers.clear(0, 1));
        Check.noArgument("P57 no such weekday of the watch", () -> lodgers.clear(1, 0));
        Check.same("P57 the last lodger", lodgers.clear(0, 0), 7);
        Check.noArgument("P57 cleared", () -> lodgers.clear(0, 0));
        Check.same("P57 the first lodger", lodgers.clear(6, 3), 0);
        Check.same("P57 an empty roster", lodgers.rosterSize(), 0);
        Check.noArgument("P57 an empty roster", () -> lodgers.clear(6, 3));
        Check.same("P63 only two were changes", lodgers.undoable(), 2);
    }

    /** P58 "Returns whether the lodger was exempt from it before." */
    private static void exempted() {
        WatchLodgers lodgers = Check.loaded("house 2 0 0" + HouseBoundaries.lodgers(8));
        Check.that("P58 not before", !lodgers.setExempt(7, 3, true));
        Check.that("P58 exempt before and afterwards", lodgers.setExempt(7, 3, true));
        Check.same("P58 once in the set", lodgers.exemptionCount(), 1);
        Check.that("P58 exempt before, not afterwards", lodgers.setExempt(7, 3, false));
        Check.same("P58 removed", lodgers.exemptionCount(), 0);
        Check.that("P58 neither before nor afterwards", !lodgers.setExempt(7, 3, false));
        Check.same("P58 still none", lodgers.exemptionCount(), 0);
        WatchLodgers gone = Check.loaded("house 2 50 0;lodger a 0 0 0 0;watches 8");
        Check.noArgument("P58 gone", () -> gone.setExempt(0, 0, true));
        Check.noArgument("P58 gone, although nothing would differ", () -> gone.setExempt(0, 0, false));
    }

    /** P59 "Returns the number of blankets afterwards."; "IllegalArgumentException if the lodger is gone or has 3
     * blankets" */
    private static void blanketsGiven() {
        WatchLodgers lodgers = Check.loaded("house 2 0 0;lodger a 0 0 0 0;lodger b 0 0 2 0;lodger c 0 0 3 0");
        Check.same("P59 the first", lodgers.giveBlanket(0), 1);
        Check.same("P59 the second", lodgers.giveBlanket(0), 2);
        Check.same("P59 the third", lodgers.giveBlanket(0), 3);
        Check.noArgument("P59 a fourth", () -> lodgers.giveBlanket(0));
        Check.same("P59 the third after 2 from the text", lodgers.giveBlanket(1), 3);
        Check.noArgument("P59 a fourth after 3 from the text", () -> lodgers.giveBlanket(2));
        Check.same("P27 still 3", lodgers.blankets(2), 3);
        lodgers.undo();
        Check.same("P59 the third again", lodgers.giveBlanket(1), 3);
    }

    /** P60 "number of meals, 1 to 100"; "Returns the number of meals afterwards." */
    private static void mealsBrought() {
        WatchLodgers lodgers = Check.loaded("house 2 0 0;lodger a 0 0 0 0");
        Check.same("P60 the least", lodgers.bringMeals(1), 1);
        Check.same("P60 the most", lodgers.bringMeals(100), 101);
        Check.same("P60 more than 100 in all", lodgers.bringMeals(100), 201);
        Check.same("P14 meals", lodgers.meals(), 201);
    }

    /** P61 "strength, 0 to 9"; "Returns the previous strength." */
    private static void stormsSet() {
        WatchLodgers lodgers = Check.loaded("house 2 0 0;lodger a 0 0 0 0");
        Check.same("P61 0 at first", lodgers.setStorm(0, 9), 0);
        Check.same("P61 9 before", lodgers.setStorm(0, 0), 9);
        Check.same("P61 the last weekday", lodgers.setStorm(6, 9), 0);
        Check.same("P61 0 before", lodgers.setStorm(0, 1), 0);
        Check.same("P17 the first weekday", lodgers.storm(0), 1);
        Check.same("P17 the last weekday", lodgers.storm(6), 9);
        for (int weekday = 1; weekday < 6; weekday++) {
            Check.same("P17 no other weekday", lodgers.storm(weekday), 0);
        }
    }

    /** P64 "Saves the state of the house in a slot and replaces the state that was saved there."; P65 "The state remains
     * saved" */
    private static void savedAndRestored() {
        WatchLodgers lodgers = Check.loaded("house 2 3 1;lodger a 1 30 0 9;lodger b 0 9 0 0;roster 1 1 1;meals 9");
        Check.same("P64 before the first watch", lodgers.save(0), 0);
        lodgers.passWatches(60);
        Check.same("P64 the other slot", lodgers.save(1), 60);
        lodgers.passWatches(1);
        Check.same("P64 replaced", lodgers.save(1), 61);
        Check.same("P65 the first slot", lodgers.restore(0), 0);
        Check.same("P65 a second time", lodgers.restore(0), 0);
        Check.same("P65 the second slot, replaced", lodgers.restore(1), 61);
        Check.same("P7 of the restored state", lodgers.watchesPassed(), 61);
        lodgers.bringMeals(50);
        Check.same("P64 with a change", lodgers.save(0), 61);
        Check.same("P63 save does not count", lodgers.undoable(), 1);
        lodgers.undo();
        int meals = lodgers.meals();
        lodgers.restore(0);
        Check.same("P65 the change is part of the state", lodgers.meals(), meals + 50);
        Check.noState("P64 changes that can be undone are not part of the state", lodgers::undo);
    }
}
