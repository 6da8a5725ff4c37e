/**
 * Sections 1 and 2 of the document: a test for each sentence that names a boundary case, in the document's order.
 * The sentence stands above its test.
 */
final class HouseBoundaries {
    private static final String ONE = ";lodger a 0 0 0 0";

    private HouseBoundaries() {
    }

    static void run() {
        returnTypes();
        floors();
        floorNumbers();
        rentAndWage();
        fundMealsGullsAtFirst();
        lodgerCounts();
        fullHouse();
        names();
        energiesAndBlanketsAndCoins();
        debtAndSickDaysAtFirst();
        presentAtFirst();
        sameNames();
        climb();
        daysAndWeekdays();
        watchesOfADay();
        stormStrengths();
        begin();
        rosterEntries();
        orderOfEntries();
        exemptions();
    }

    static String lodgers(int count) {
        StringBuilder lines = new StringBuilder();
        for (int lodger = 0; lodger < count; lodger++) {
            lines.append(";lodger ").append((char) ('a' + lodger)).append(" 0 0 0 0");
        }
        return lines.toString();
    }

    /** "All numbers are integers unless a method returns float or double." */
    private static void returnTypes() {
        WatchLodgers half = Check.loaded("house 2 0 0;lodger a 0 1 0 0;lodger b 0 0 0 0");
        Check.same("S1 a mean that is no integer", half.meanEnergy(), 0.5);
        half.passWatches(3);
        WatchLodgers third = Check.loaded("house 2 0 0;lodger a 1 30 0 0;watches 3");
        Check.same("S1 a share that is no integer", third.darkShare(), 1.0f / 3.0f);
    }

    /** "The house has 2 to 9 floors" */
    private static void floors() {
        Check.same("S1 2 floors", Check.loaded("house 2 0 0" + ONE).floors(), 2);
        Check.same("S1 9 floors", Check.loaded("house 9 0 0" + ONE).floors(), 9);
        Check.textError(2, "house ^1 0 0" + ONE);
        Check.textError(2, "house ^0 0 0" + ONE);
        Check.textError(2, "house ^10 0 0" + ONE);
    }

    /** "numbered from 0 at the bottom; the lamp is above the top floor" */
    private static void floorNumbers() {
        for (int floors = 2; floors <= 9; floors++) {
            String house = "house " + floors + " 0 0;lodger a ";
            Check.same("S1 bottom of " + floors, Check.loaded(house + "0 0 0 0").floorOf(0), 0);
            Check.same("S1 top of " + floors, Check.loaded(house + (floors - 1) + " 0 0 0").floorOf(0), floors - 1);
            Check.textError(2, house + "^" + floors + " 0 0 0");
        }
    }

    /** "There is a rent, a wage" (rent 0 to 50, wage 0 to 20 by the grammar) */
    private static void rentAndWage() {
        Check.same("S1 rent 0", Check.loaded("house 2 0 1" + ONE).rent(), 0);
        Check.same("S1 rent 50", Check.loaded("house 2 50 1" + ONE).rent(), 50);
        Check.same("S1 wage 0", Check.loaded("house 2 1 0" + ONE).wage(), 0);
        Check.same("S1 wage 20", Check.loaded("house 2 1 20" + ONE).wage(), 20);
        Check.textError(2, "house 2 ^51 0" + ONE);
        Check.textError(2, "house 2 0 ^21" + ONE);
    }

    /** "a fund of coins, which is 0 at first, a pantry with meals, and a number of gulls; both are 0 at first" */
    private static void fundMealsGullsAtFirst() {
        WatchLodgers lodgers = Check.loaded("house 9 50 20;lodger a 8 30 3 200");
        Check.same("S1 fund at first", lodgers.fund(), 0);
        Check.same("S1 meals at first", lodgers.meals(), 0);
        Check.same("S1 gulls at first", lodgers.gulls(), 0);
        Check.load(lodgers, "house 9 50 0;lodger a 8 30 3 200;meals 9;gulls 9;watches 4");
        Check.that("S1 coins in the fund of a house before", lodgers.fund() > 0);
        Check.load(lodgers, "house 9 50 20;lodger a 8 30 3 200");
        Check.same("S1 fund at first, after another house", lodgers.fund(), 0);
        Check.same("S1 meals at first, after another house", lodgers.meals(), 0);
        Check.same("S1 gulls at first, after another house", lodgers.gulls(), 0);
    }

    /** "There are 1 to 8 lodgers, numbered from 0." */
    private static void lodgerCounts() {
        Check.textError(4, "house 2 0 0^");
        WatchLodgers one = Check.loaded("house 2 0 0" + lodgers(1));
        Check.same("S1 1 lodger", one.lodgerCount(), 1);
        Check.same("S1 lodger 0", one.lodgerLetter(0, 0), 'a');
        Check.noIndex("S1 lodger 1 of 1", () -> one.isPresent(1));
        WatchLodgers eight = Check.loaded("house 2 0 0" + lodgers(8));
        Check.same("S1 8 lodgers", eight.lodgerCount(), 8);
        Check.same("S1 lodger 7", eight.lodgerLetter(7, 0), 'h');
        Check.noIndex("S1 lodger 8 of 8", () -> eight.isPresent(8));
        Check.textError(4, "house 2 0 0" + lodgers(8) + ";^lodger i 0 0 0 0");
    }

    /** "There are 1 to 8 lodgers": every call answers for a full house as for one lodger */
    private static void fullHouse() {
        WatchLodgers eight = Check.loaded("house 2 3 1;lodger a 1 30 3 9;lodger b 0 30 2 9;lodger c 1 30 1 9;"
                + "lodger d 0 30 0 9;lodger e 1 30 0 9;lodger f 0 30 0 9;lodger g 1 30 0 9;lodger h 0 22 0 2;"
                + "exempt 7 2;roster 6 3 7;roster 0 0 7;meals 99");
        Check.same("S1 mean of 8", eight.meanEnergy(), 29.0);
        Check.same("S1 consistent with 8", eight.inconsistencies(), 0);
        Check.same("S1 exemptions of the last", eight.exemptionCount(), 1);
        Check.same("S1 entries of the last", eight.entriesOf(7), 2);
        Check.same("S1 the last keeps a watch", eight.nextKeeper(), 7);
        eight.passWatches(1);
        Check.same("S1 the last is the busiest", eight.busiestLodger(), 7);
        Check.same("S1 the last has paid with energy", eight.energy(7), 20);
        eight.passWatches(3);
        Check.same("S1 the last eats", eight.meals(), 91);
        Check.same("S1 the last pays", eight.coins(7), 2);
        Check.same("S1 consistent with 8 after a day", eight.inconsistencies(), 0);
        Check.same("S1 predictions for the last", eight.energyAfter(7, 0), 26);
        Check.same("S1 a text of the last", Check.written(eight, eight.writeLodger(7)), "h:26");
        Check.same("S1 undone for 8", eight.undo(), 1);
        Check.same("S1 undone for the last", eight.energy(7), 20);
    }

    /** "A lodger has a name of 1 to 6 letters a to z" */
    private static void names() {
        WatchLodgers lodgers = Check.loaded("house 2 0 0;lodger z 0 0 0 0;lodger abcxyz 0 0 0 0");
        Check.same("S1 a name of 1 letter", lodgers.lodgerLetter(0, 0), 'z');
        Check.same("S1 its end", lodgers.lodgerLetter(0, 1), WatchLodgers.NONE);
        for (int index = 0; index < 6; index++) {
            Check.same("S1 a name of 6 letters", lodgers.lodgerLetter(1, index), "abcxyz".charAt(index));
        }
        Check.same("S1 its end", lodgers.lodgerLetter(1, 6), WatchLodgers.NONE);
        Check.textError(1, "house 2 0 0;lodger ^0 0 0 0");
        Check.textError(3, "house 2 0 0;lodger ^abcdefg 0 0 0 0");
        Check.textError(1, "house 2 0 0;lodger ^abcdefgh 0 0 0 0");
        Check.textError(1, "house 2 0 0;lodger ^` 0 0 0 0");
        Check.textError(1, "house 2 0 0;lodger ^{ 0 0 0 0");
        Check.textError(1, "house 2 0 0;lodger ^A 0 0 0 0");
        Check.textError(1, "house 2 0 0;lodger a^Z 0 0 0 0");
        Check.textError(1, "house 2 0 0;lodger a^` 0 0 0 0");
        Check.textError(1, "house 2 0 0;lodger a^{ 0 0 0 0");
    }

    /** "an energy from 0 to 30, a number of blankets, coins" (blankets 0 to 3, coins 0 to 200 by the grammar) */
    private static void energiesAndBlanketsAndCoins() {
        WatchLodgers lodgers = Check.loaded("house 2 0 0;lodger a 0 0 0 0;lodger b 1 30 3 200");
        Check.same("S1 least energy", lodgers.energy(0), 0);
        Check.same("S1 greatest energy", lodgers.energy(1), 30);
        Check.same("S1 no blankets", lodgers.blankets(0), 0);
        Check.same("S1 most blankets", lodgers.blankets(1), 3);
        Check.same("S1 no coins", lodgers.coins(0), 0);
        Check.same("S1 most coins", lodgers.coins(1), 200);
        Check.textError(2, "house 2 0 0;lodger a 0 ^31 0 0");
        Check.textError(2, "house 2 0 0;lodger a 0 0 ^4 0");
        Check.textError(2, "house 2 0 0;lodger a 0 0 0 ^201");
    }

    /** "a debt and a number of sick days, which are 0 at first" */
    private static void debtAndSickDaysAtFirst() {
        WatchLodgers lodgers = new WatchLodgers();
        Check.load(lodgers, "house 2 20 0;lodger a 0 0 0 0;watches 8");
        Check.same("S1 a debt of a house before", lodgers.debt(0), 40);
        Check.load(lodgers, "house 2 20 0;lodger a 1 30 0 0;lodger b 0 0 0 0");
        Check.same("S1 debt at first", lodgers.debt(0), 0);
        Check.same("S1 no sick days at first", lodgers.obstacle(0), 0);
        Check.same("S1 debt of the next lodger at first", lodgers.debt(1), 0);
    }

    /** "and is present or gone; all lodgers are present at first" */
    private static void presentAtFirst() {
        WatchLodgers lodgers = new WatchLodgers();
        Check.load(lodgers, "house 2 50 0" + lodgers(8) + ";watches 8");
        Check.same("S1 all lodgers are gone", lodgers.presentCount(), 0);
        Check.load(lodgers, "house 2 50 0" + lodgers(8));
        Check.same("S1 all lodgers are present at first", lodgers.presentCount(), 8);
        for (int lodger = 0; lodger < 8; lodger++) {
            Check.that("S1 lodger " + lodger + " is present at first", lodgers.isPresent(lodger));
        }
    }

    /** "No two lodgers have the same name, also if one of them is gone." */
    private static void sameNames() {
        for (int lodger = 0; lodger < 7; lodger++) {
            char name = (char) ('a' + lodger);
            Check.textError(3, "house 2 0 0" + lodgers(7) + ";lodger ^" + name + " 0 0 0 0");
        }
        Check.textError(3, "house 2 50 0;lodger gone 0 0 0 0;watches 8;lodger ^gone 0 0 0 0");
        Check.textError(3, "house 2 50 0;lodger gone 0 0 0 0;watches 8;readmit 0;lodger ^gone 0 0 0 0");
        WatchLodgers similar = Check.loaded("house 2 0 0;lodger ab 0 0 0 0;lodger a 0 0 0 0;lodger abc 0 0 0 0;"
                + "lodger b 0 0 0 0;lodger ba 0 0 0 0;lodger aa 0 0 0 0;lodger abcdef 0 0 0 0;lodger abcdeg 0 0 0 0");
        Check.same("S1 names that are only similar", similar.lodgerCount(), 8);
        WatchLodgers again = Check.loaded("house 2 0 0;lodger a 0 0 0 0");
        Check.same("S1 the name of a lodger of a house before", Check.load(again, "house 2 0 0;lodger a 0 0 0 0"), 1);
    }

    /** "The climb of a lodger is the number of floors minus the number of the floor of the lodger." */
    private static void climb() {
        Check.same("S1 from the bottom of 9", Check.loaded("house 9 0 0;lodger a 0 0 0 0").cost(0), 9);
        Check.same("S1 from the top of 9", Check.loaded("house 9 0 0;lodger a 8 0 0 0").cost(0), 1);
        Check.same("S1 from the bottom of 2", Check.loaded("house 2 0 0;lodger a 0 0 0 0").cost(0), 2);
        Check.same("S1 from the top of 2", Check.loaded("house 2 0 0;lodger a 1 0 0 0").cost(0), 1);
        Check.same("S1 from another floor", Check.loaded("house 9 0 0;lodger a 0 0 0 0;move 0 8").cost(0), 1);
    }

    /** "Days are numbered from 0; the weekday of a day is its number modulo 7." */
    private static void daysAndWeekdays() {
        WatchLodgers lodgers = Check.loaded("house 2 0 0" + ONE);
        for (int day = 0; day <= 22; day++) {
            Check.same("S2 day", lodgers.day(), day);
            Check.same("S2 weekday of day " + day, lodgers.weekday(), day % 7);
            lodgers.passWatches(4);
        }
    }

    /** "A day has 4 watches, numbered from 0 to 3." */
    private static void watchesOfADay() {
        WatchLodgers lodgers = Check.loaded("house 2 0 0" + ONE);
        for (int watch : new int[] {0, 1, 2, 3, 0, 1, 2, 3, 0}) {
            Check.same("S2 watch", lodgers.watch(), watch);
            lodgers.passWatches(1);
        }
        Check.same("S2 days of 9 watches", lodgers.day(), 2);
    }

    /** "There is a storm of a strength from 0 to 9 for each weekday, 0 at first." */
    private static void stormStrengths() {
        WatchLodgers lodgers = new WatchLodgers();
        Check.load(lodgers, "house 2 0 0;gale 9" + ONE);
        for (int weekday = 0; weekday < 7; weekday++) {
            Check.same("S2 strength 9", lodgers.storm(weekday), 9);
        }
        Check.load(lodgers, "house 2 0 0" + ONE);
        for (int weekday = 0; weekday < 7; weekday++) {
            Check.same("S2 strength at first", lodgers.storm(weekday), 0);
            lodgers.setStorm(weekday, 9 - weekday);
        }
        for (int weekday = 0; weekday < 7; weekday++) {
            Check.same("S2 a strength for each weekday", lodgers.storm(weekday), 9 - weekday);
        }
        Check.textError(2, "house 2 0 0;storm 0 ^10");
        Check.textError(2, "house 2 0 0;gale ^10");
        Check.noArgument("S2 strength 10", () -> lodgers.setStorm(0, 10));
        Check.noArgument("S2 strength -1", () -> lodgers.setStorm(0, -1));
    }

    /** "The simulation begins before watch 0 of day 0. The next watch is the one that is simulated next" */
    private static void begin() {
        WatchLodgers lodgers = Check.loaded("house 2 0 0;lodger a 1 30 0 0;roster 0 0 0");
        Check.same("S2 begins on day 0", lodgers.day(), 0);
        Check.same("S2 begins before watch 0", lodgers.watch(), 0);
        Check.same("S2 nothing is simulated yet", lodgers.watchesPassed(), 0);
        Check.that("S2 watch 0 of day 0 is simulated next", !lodgers.isNextSubstitute());
        lodgers.passWatches(1);
        Check.same("S2 before watch 1", lodgers.watch(), 1);
        Check.same("S2 by the rostered lodger", lodgers.substitutions(), 0);
    }

    /** "there is at most one entry for a weekday and a watch" */
    private static void rosterEntries() {
        WatchLodgers lodgers = Check.loaded("house 2 0 0" + lodgers(2));
        Check.same("S2 an empty roster", lodgers.rosterSize(), 0);
        for (int round = 0; round < 2; round++) {
            for (int entry = 0; entry < 28; entry++) {
                lodgers.assign(entry / 4, entry % 4, round);
            }
            Check.same("S2 a full roster", lodgers.rosterSize(), 28);
            Check.same("S2 all of one lodger", lodgers.entriesOf(round), 28);
        }
        Check.same("S2 one entry, set twice in a text", Check.loaded("house 2 0 0" + lodgers(2)
                + ";roster 6 3 0;roster 6 3 1").rosterSize(), 1);
    }

    /** "a new entry becomes the last one; if the lodger of an entry is replaced, its place stays the same" */
    private static void orderOfEntries() {
        WatchLodgers lodgers = Check.loaded("house 2 0 0" + lodgers(2) + ";roster 6 3 0;roster 0 0 0;roster 3 1 0");
        lodgers.assign(6, 3, 1);
        Check.same("S2 the first, replaced", lodgers.entryAt(0), 27);
        lodgers.assign(3, 1, 1);
        Check.same("S2 the last, replaced", lodgers.entryAt(2), 13);
        lodgers.assign(0, 1, 1);
        Check.same("S2 a new one is the last", lodgers.entryAt(3), 1);
        lodgers.clear(6, 3);
        lodgers.assign(6, 3, 1);
        Check.same("S2 the first, removed", lodgers.entryAt(0), 0);
        Check.same("S2 removed and new again", lodgers.entryAt(3), 27);
        WatchLodgers backwards = Check.loaded("house 2 0 0" + lodgers(1));
        for (int entry = 27; entry >= 0; entry--) {
            backwards.assign(entry / 4, entry % 4, 0);
        }
        for (int position = 0; position < 28; position++) {
            Check.same("S2 a full roster in its order", backwards.entryAt(position), 27 - position);
        }
    }

    /** "The exemptions are a set of pairs of a lodger and a watch." */
    private static void exemptions() {
        WatchLodgers lodgers = Check.loaded("house 2 0 0" + lodgers(8));
        Check.same("S2 no exemptions", lodgers.exemptionCount(), 0);
        for (int round = 0; round < 2; round++) {
            for (int pair = 0; pair < 32; pair++) {
                Check.that("S2 exempt before", lodgers.setExempt(pair / 4, pair % 4, true) == (round == 1));
            }
            Check.same("S2 all exemptions, each once", lodgers.exemptionCount(), 32);
        }
    }
}
