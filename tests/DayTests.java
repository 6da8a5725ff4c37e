/** Sections 1 to 4: who keeps a watch, and the steps at the end of a day. */
final class DayTests {
    private static final String OFF = ";exempt 0 0;exempt 0 1;exempt 0 2;exempt 0 3";

    private DayTests() {
    }

    static void run() {
        cost();
        obstacles();
        keeping();
        substitutes();
        darkWatches();
        rest();
        gulls();
        meals();
        storm();
        sickDays();
        rent();
        gone();
    }

    private static WatchLodgers afterDay(String text) {
        WatchLodgers lodgers = Check.loaded(text);
        lodgers.passWatches(4);
        Check.same("consistent after a day", lodgers.inconsistencies(), 0);
        return lodgers;
    }

    private static int energyAfterDay(String text) {
        return afterDay(text).energy(0);
    }

    private static void cost() {
        WatchLodgers lodgers = Check.loaded("house 5 0 0;lodger a 0 30 0 0;lodger b 4 30 0 0;storm 0 5;storm 1 9");
        Check.same("P39 climb and half of the storm", lodgers.cost(0), 7);
        Check.same("P39 top floor", lodgers.cost(1), 3);
        lodgers.passWatches(4);
        Check.same("P39 storm of today", lodgers.cost(1), 5);
        lodgers.setStorm(1, 0);
        Check.same("P39 no storm", lodgers.cost(1), 1);
    }

    private static void obstacles() {
        WatchLodgers lodgers = Check.loaded("house 3 0 0;lodger a 0 3 0 0;lodger b 0 2 0 0;lodger c 0 9 0 0;exempt 2 0;"
                + "lodger d 0 2 0 0;exempt 3 0");
        Check.same("P40 none, with energy that is just enough", lodgers.obstacle(0), 0);
        Check.same("P40 energy", lodgers.obstacle(1), 3);
        Check.same("P40 exempt", lodgers.obstacle(2), 2);
        Check.same("P40 exempt before energy", lodgers.obstacle(3), 2);
        lodgers.passWatches(1);
        Check.same("P40 energy before the watch directly before", lodgers.obstacle(0), 3);
        Check.same("P40 not exempt from the next watch", lodgers.obstacle(2), 0);
        lodgers.passWatches(1);
        Check.same("P40 kept the watch directly before", lodgers.obstacle(2), 4);
        lodgers.setExempt(2, 2, true);
        Check.same("P40 exempt before the watch directly before", lodgers.obstacle(2), 2);
        lodgers.passWatches(1);
        Check.same("P40 kept not directly before", lodgers.obstacle(2), 0);

        // a keeps watch 3 of day 0, is without energy at its end, and eats before day 1
        String sick = "house 2 0 0;lodger a 1 2 0 0;exempt 0 0;exempt 0 1;exempt 0 2;watches 4;meals 5;feast;release 0 0";
        Check.same("P40 directly before, over the end of a day, before sick", Check.loaded(sick).obstacle(0), 4);
        Check.same("P40 sick", Check.loaded(sick + ";watches 1;release 0 1").obstacle(0), 5);
        Check.same("P40 gone", Check.loaded("house 2 50 0;lodger a 0 9 0 0" + OFF + ";watches 8").obstacle(0), 1);
    }

    private static void keeping() {
        WatchLodgers lodgers = Check.loaded("house 4 9 5;lodger a 1 20 0 7;lodger b 0 30 0 0;roster 0 0 1;storm 0 3");
        Check.same("P41 the rostered lodger", lodgers.nextKeeper(), 1);
        Check.that("P42 is no substitute", !lodgers.isNextSubstitute());
        Check.same("P55 no dark watch", lodgers.passWatches(1), 0);
        Check.same("energy decreases by the cost", lodgers.energy(1), 25);
        Check.same("coins increase by the wage", lodgers.coins(1), 5);
        Check.same("P30 kept", lodgers.watchesOf(1), 1);
        Check.same("P31 kept today", lodgers.watchesToday(1), 1);
        Check.same("P43 kept directly before", lodgers.previousKeeper(), 1);
        Check.same("P19 no substitution", lodgers.substitutions(), 0);
        Check.same("energy of the other", lodgers.energy(0), 20);
    }

    private static void substitutes() {
        WatchLodgers lodgers = Check.loaded("house 2 0 1;lodger a 1 30 0 0;lodger b 1 30 0 0;lodger c 1 30 0 0;"
                + "roster 0 0 2;roster 0 1 2;roster 1 0 2");
        Check.that("P42 rostered", !lodgers.isNextSubstitute());
        lodgers.passWatches(1);
        Check.same("P41 the smallest number on a tie", lodgers.nextKeeper(), 0);
        Check.that("P42 a substitute for the rostered one", lodgers.isNextSubstitute());
        lodgers.passWatches(1);
        Check.same("P41 the fewest watches", lodgers.nextKeeper(), 1);
        Check.that("P42 a substitute without an entry", lodgers.isNextSubstitute());
        lodgers.passWatches(1);
        Check.same("P41 a tie of all, but one kept the watch before", lodgers.nextKeeper(), 0);
        lodgers.setExempt(0, 3, true);
        Check.same("P41 the first of the others", lodgers.nextKeeper(), 2);
        lodgers.passWatches(1);
        Check.same("P19 substitutions", lodgers.substitutions(), 3);
        Check.same("P41 c kept the last watch of the day before", lodgers.nextKeeper(), 0);
        Check.same("P43 over the end of a day", lodgers.previousKeeper(), 2);
    }

    private static void darkWatches() {
        WatchLodgers lodgers = Check.loaded("house 2 8 0;lodger a 0 30 0 200" + OFF);
        Check.same("P41 nobody", lodgers.nextKeeper(), WatchLodgers.NONE);
        Check.that("P42 nobody is no substitute", !lodgers.isNextSubstitute());
        Check.same("P55 dark", lodgers.passWatches(4), 4);
        Check.same("P16 dark watches of an empty fund, then the rent", lodgers.fund(), 8);
        Check.same("P55 dark", lodgers.passWatches(1), 1);
        Check.same("P16 less 5", lodgers.fund(), 3);
        lodgers.passWatches(1);
        Check.same("P16 not below 0", lodgers.fund(), 0);
        Check.same("P20 with coins lost", lodgers.inconsistencies(), 0);
        Check.same("P18 dark", lodgers.darkWatches(), 6);
        Check.same("P43 dark", lodgers.previousKeeper(), WatchLodgers.NONE);
        Check.same("P19 dark", lodgers.substitutions(), 0);
    }

    private static void rest() {
        Check.same("rest and a meal", energyAfterDay("house 2 0 0;lodger a 1 10 0 0;meals 9" + OFF), 18);
        Check.same("rest not above 30", energyAfterDay("house 2 0 0;lodger a 1 29 0 0" + OFF), 26);
        Check.same("no rest after two watches", energyAfterDay("house 2 0 0;lodger a 1 10 0 0;meals 9"), 14);
    }

    private static void gulls() {
        WatchLodgers none = afterDay("house 2 0 0;lodger a 1 10 0 0");
        Check.same("P15 not below 0", none.gulls(), 0);
        Check.same("P14 not below 0", none.meals(), 0);
        Check.same("P15 meals left", afterDay("house 2 0 0;lodger a 1 10 0 0;meals 4;gulls 3").gulls(), 4);
        WatchLodgers robbed = afterDay("house 2 0 0;lodger a 1 10 0 0;meals 3;gulls 3");
        Check.same("P15 no meals left", robbed.gulls(), 2);
        Check.same("P14 robbed", robbed.meals(), 0);
        Check.same("nobody eats", robbed.energy(0), 4);
        Check.same("P15 not above 20", afterDay("house 2 0 0;lodger a 1 10 0 0;meals 100;gulls 20").gulls(), 20);
        Check.same("P14 eaten after the gulls", afterDay("house 2 0 0;lodger a 1 10 0 0;meals 100;gulls 20").meals(), 79);
        Check.same("P15 the last meal is left for the lodgers",
                afterDay("house 2 0 0;lodger a 1 10 0 0;meals 1").gulls(), 1);
    }

    private static void meals() {
        WatchLodgers lodgers = afterDay("house 2 0 0;lodger a 1 10 0 0" + OFF
                + ";lodger b 1 10 0 0;exempt 1 0;exempt 1 1;exempt 1 2;exempt 1 3;meals 1");
        Check.same("the smallest number eats first", lodgers.energy(0), 18);
        Check.same("without a meal", lodgers.energy(1), 8);
        Check.same("meal not above 30", energyAfterDay("house 2 0 0;lodger a 1 27 0 0;meals 9;storm 0 1" + OFF), 29);
        Check.same("no meal, not below 0", energyAfterDay("house 2 0 0;lodger a 1 1 0 0" + OFF), 0);
    }

    private static void storm() {
        Check.same("storm", energyAfterDay("house 2 0 0;lodger a 1 20 0 0;storm 0 7" + OFF), 11);
        Check.same("storm and a blanket", energyAfterDay("house 2 0 0;lodger a 1 20 1 0;storm 0 7" + OFF), 14);
        Check.same("storm and three blankets", energyAfterDay("house 2 0 0;lodger a 1 20 3 0;storm 0 9" + OFF), 18);
        Check.same("more blankets than storm", energyAfterDay("house 2 0 0;lodger a 1 20 3 0;storm 0 4" + OFF), 18);
        Check.same("storm not below 0", energyAfterDay("house 2 0 0;lodger a 1 3 0 0;storm 0 9" + OFF), 0);
        Check.same("storm of the day that ends", energyAfterDay("house 2 0 0;lodger a 1 20 0 0;storm 1 9" + OFF), 18);
    }

    private static void sickDays() {
        // day 0 ends with energy 8 less a storm of 9; on day 1 the energy is too little, on day 2 a is sick
        WatchLodgers lodgers = Check.loaded("house 2 0 0;lodger a 1 0 0 0;storm 0 9;meals 50" + OFF
                + ";watches 4;release 0 0");
        Check.same("without energy", lodgers.obstacle(0), 3);
        lodgers.passWatches(4);
        Check.same("energy again", lodgers.energy(0), 8);
        Check.same("sick on the second day", lodgers.obstacle(0), 5);
        lodgers.passWatches(4);
        Check.same("well again", lodgers.obstacle(0), 0);
        lodgers.passWatches(8);
        Check.same("well for long", lodgers.obstacle(0), 0);

        WatchLodgers hungry = Check.loaded("house 2 0 0;lodger a 1 0 0 0" + OFF + ";watches 4;meals 50;feast;release 0 0");
        Check.same("sick without a storm", hungry.obstacle(0), 5);
    }

    private static void rent() {
        WatchLodgers payer = Check.loaded("house 2 6 1;lodger a 1 10 0 20");
        Check.same("P32 before a watch", payer.rentToday(0), 6);
        payer.passWatches(3);
        Check.same("P32 after two watches", payer.rentToday(0), 2);
        payer.passWatches(1);
        Check.same("rent paid", payer.coins(0), 20);
        Check.same("rent in the fund", payer.fund(), 2);
        Check.same("P32 a new day", payer.rentToday(0), 6);
        WatchLodgers keeper = Check.loaded("house 2 3 0;lodger a 1 10 0 20");
        keeper.passWatches(3);
        Check.same("P32 not less than 0", keeper.rentToday(0), 0);
        keeper.passWatches(1);
        Check.same("no rent", keeper.coins(0), 20);
        Check.same("no rent in the fund", keeper.fund(), 0);

        WatchLodgers debtor = afterDay("house 2 6 0;lodger a 1 10 0 2" + OFF);
        Check.same("all coins paid", debtor.coins(0), 0);
        Check.same("the rest increases the debt", debtor.debt(0), 4);
        Check.same("the fund gets what is paid", debtor.fund(), 2);
        WatchLodgers richer = Check.loaded("house 2 6 0;lodger a 1 10 0 2" + OFF
                + ";lodger b 0 0 0 100;exempt 1 0;watches 4;lend 1 0 50;watches 4");
        Check.same("an old debt is not paid with the rent", richer.debt(0), 4);
        Check.same("only the rent of the day is paid", richer.coins(0), 44);
    }

    private static void gone() {
        WatchLodgers lodgers = Check.loaded("house 2 50 0;lodger a 1 30 0 0;lodger b 1 30 0 200;roster 2 0 0;roster 2 1 1;"
                + "roster 3 3 0;roster 4 0 1;exempt 0 0;exempt 0 1;exempt 0 2;exempt 0 3;exempt 1 3");
        lodgers.passWatches(4);
        Check.same("a debt of 50", lodgers.debt(0), 50);
        Check.that("P24 is not greater than 50", lodgers.isPresent(0));
        Check.same("entries of one who is present", lodgers.rosterSize(), 4);
        lodgers.passWatches(3);
        Check.that("P24 before the end of the day", lodgers.isPresent(0));
        lodgers.passWatches(1);
        Check.that("P24 gone", !lodgers.isPresent(0));
        Check.same("P22 present", lodgers.presentCount(), 1);
        Check.same("P33 entries", lodgers.rosterSize(), 2);
        Check.same("P34 order of the rest", lodgers.entryAt(0), 9);
        Check.same("P34 order of the rest", lodgers.entryAt(1), 16);
        Check.same("P38 exemptions", lodgers.exemptionCount(), 1);
        Check.same("P32 gone", lodgers.rentToday(0), 0);
        Check.same("P39 cost of one who is gone", lodgers.cost(0), 1);
        Check.same("P20 gone", lodgers.inconsistencies(), 0);
        int energy = lodgers.energy(0);
        lodgers.passWatches(4);
        Check.same("no turns for the gone", lodgers.energy(0), energy);
        Check.same("no more debt for the gone", lodgers.debt(0), 100);

        WatchLodgers keeper = Check.loaded("house 2 50 0;lodger a 1 30 0 0;watches 8");
        Check.that("gone after keeping", !keeper.isPresent(0));
        Check.same("P31 reset for the gone too", keeper.watchesToday(0), 0);
        Check.same("P30 of the gone", keeper.watchesOf(0), 4);
    }
}
