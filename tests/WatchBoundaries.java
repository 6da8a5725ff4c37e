/**
 * Sections 3 and 4 of the document: a test for each sentence that names a boundary case, in the document's order.
 * The sentence stands above its test.
 */
final class WatchBoundaries {
    private static final String OFF = ";exempt 0 0;exempt 0 1;exempt 0 2;exempt 0 3";

    private WatchBoundaries() {
    }

    static void run() {
        costOfEachStrength();
        orderOfObstacles();
        energyLessThanCost();
        directlyBefore();
        sickDaysGreaterThan0();
        rosteredLodger();
        fewestWatches();
        dark();
        fundNotBelow0();
        energyAndWage();
        endAfterWatch3();
        onlyThePresent();
        rest();
        sickDaysDecrease();
        mealsNotBelow0();
        gullsUpTo20();
        gullsDownTo0();
        gullsWithoutLodgers();
        eating();
        hunger();
        turnsInOrder();
        blanketsInStorms();
        stormNotBelow0();
        sickWithoutEnergy();
        orderOfSteps();
        rentNotLessThan0();
        asMuchAsPossible();
        debtGreaterThan50();
        removedOfTheGone();
    }

    private static WatchLodgers afterDay(String text) {
        WatchLodgers lodgers = Check.loaded(text);
        lodgers.passWatches(4);
        return lodgers;
    }

    /** One lodger who is exempt from all watches, with a number of energy, after a day without meals. */
    private static int energyAfterIdleDay(int energy, String lines) {
        return afterDay("house 2 0 0;lodger a 1 " + energy + " 0 0" + OFF + lines).energy(0);
    }

    /** "the climb plus half of the strength of the storm of today, rounded down" */
    private static void costOfEachStrength() {
        int[] halves = {0, 0, 1, 1, 2, 2, 3, 3, 4, 4};
        WatchLodgers lodgers = Check.loaded("house 9 0 0;lodger a 0 0 0 0;lodger b 8 0 0 0");
        for (int strength = 0; strength <= 9; strength++) {
            lodgers.setStorm(0, strength);
            Check.same("S3 cost from the bottom, storm " + strength, lodgers.cost(0), 9 + halves[strength]);
            Check.same("S3 cost from the top, storm " + strength, lodgers.cost(1), 1 + halves[strength]);
        }
        lodgers.setStorm(0, 0);
        lodgers.setStorm(6, 9);
        lodgers.setStorm(1, 9);
        Check.same("S3 storms of yesterday and tomorrow", lodgers.cost(0), 9);
        lodgers.setStorm(1, 0);
        lodgers.passWatches(24);
        Check.same("S3 the storm of the last weekday", lodgers.cost(0), 13);
        lodgers.passWatches(4);
        Check.same("S3 the storm of weekday 0 again", lodgers.cost(0), 9);
    }

    /** "The obstacles for a lodger to keep the next watch are tested in this order" */
    private static void orderOfObstacles() {
        // day 1 ends with the watch of a, with no energy, and with a debt of 96: a is gone
        WatchLodgers gone = Check.loaded("house 2 50 0;lodger a 1 10 0 0;exempt 0 0;exempt 0 1;exempt 0 2;watches 7");
        Check.same("S3 exempt from other watches only", gone.obstacle(0), 0);
        gone.passWatches(1);
        Check.same("S3 a kept the watch before", gone.previousKeeper(), 0);
        Check.same("S3 a has no energy", gone.energy(0), 0);
        Check.same("S3 gone comes before all", gone.obstacle(0), 1);
        WatchLodgers exempt = Check.loaded("house 2 0 0;lodger a 1 2 0 0;exempt 0 0;exempt 0 1;exempt 0 2;watches 4");
        Check.same("S3 a kept the watch before", exempt.previousKeeper(), 0);
        Check.same("S3 exempt comes before energy, the watch before and sick days", exempt.obstacle(0), 2);
        exempt.setExempt(0, 0, false);
        Check.same("S3 energy comes before the watch before and sick days", exempt.obstacle(0), 3);
        String fed = "house 2 0 0;lodger a 1 2 0 0;exempt 0 0;exempt 0 1;exempt 0 2;watches 4;meals 9;feast;release 0 0";
        Check.same("S3 the watch before comes before sick days", Check.loaded(fed).obstacle(0), 4);
        Check.same("S3 sick days come last", Check.loaded(fed + ";watches 1;release 0 1").obstacle(0), 5);
    }

    /** "3 the energy is less than the cost" */
    private static void energyLessThanCost() {
        for (int floor = 0; floor < 9; floor++) {
            for (int strength : new int[] {0, 1, 8, 9}) {
                int cost = 9 - floor + strength / 2;
                String house = "house 9 0 0;storm 0 " + strength + ";lodger a " + floor + " ";
                Check.same("S3 energy is the cost", Check.loaded(house + cost + " 0 0").obstacle(0), 0);
                Check.same("S3 energy is less", Check.loaded(house + (cost - 1) + " 0 0").obstacle(0), 3);
            }
        }
        Check.same("S3 no energy", Check.loaded("house 2 0 0;lodger a 1 0 0 0").obstacle(0), 3);
    }

    /** "4 the lodger kept the watch directly before" */
    private static void directlyBefore() {
        WatchLodgers lodgers = Check.loaded("house 2 0 0;lodger a 1 30 0 0;lodger b 1 0 0 0");
        Check.same("S3 before the first watch", lodgers.obstacle(0), 0);
        lodgers.passWatches(1);
        Check.same("S3 directly before", lodgers.obstacle(0), 4);
        Check.same("S3 another lodger", lodgers.obstacle(1), 3);
        lodgers.passWatches(1);
        Check.same("S3 a dark watch directly before", lodgers.obstacle(0), 0);
        WatchLodgers last = Check.loaded("house 2 0 0;lodger a 1 30 0 0;exempt 0 2;watches 4");
        Check.same("S3 over the end of a day", last.obstacle(0), 4);
    }

    /** "5 the number of sick days is greater than 0" */
    private static void sickDaysGreaterThan0() {
        WatchLodgers lodgers = Check.loaded("house 2 0 0;lodger a 1 0 0 0;watches 4;meals 50;feast");
        Check.same("S3 2 sick days", lodgers.obstacle(0), 5);
        lodgers.passWatches(4);
        Check.same("S3 1 sick day", lodgers.obstacle(0), 5);
        lodgers.passWatches(4);
        Check.same("S3 0 sick days", lodgers.obstacle(0), 0);
    }

    /** "keeps the watch if there is such an entry and no obstacle for this lodger" */
    private static void rosteredLodger() {
        String house = "house 2 0 0;lodger a 1 1 0 0;lodger b 1 9 0 0;lodger c 1 0 0 0";
        WatchLodgers entry = Check.loaded(house + ";roster 0 0 1");
        Check.same("S3 an entry and no obstacle", entry.nextKeeper(), 1);
        Check.that("S3 an entry and no obstacle", !entry.isNextSubstitute());
        WatchLodgers none = Check.loaded(house + ";roster 0 1 1;roster 1 0 1");
        Check.same("S3 only entries of another watch or weekday", none.nextKeeper(), 0);
        Check.that("S3 no entry", none.isNextSubstitute());
        WatchLodgers hindered = Check.loaded(house + ";roster 0 0 2");
        Check.same("S3 an entry and an obstacle", hindered.nextKeeper(), 0);
        Check.that("S3 an entry and an obstacle", hindered.isNextSubstitute());
        WatchLodgers last = Check.loaded(house + ";repeat 9(meals 100);exempt 1 2;repeat 9(watches 3);roster 6 3 1");
        Check.same("S3 weekday 6, watch 3", last.weekday() * 4 + last.watch(), 27);
        Check.same("S3 the last entry of the week", last.nextKeeper(), 1);
        Check.that("S3 the last entry of the week", !last.isNextSubstitute());
        last.passWatches(1);
        Check.same("S3 weekday 0, watch 0 again", last.weekday() * 4 + last.watch(), 0);
        last.assign(0, 0, 0);
        Check.same("S3 the first entry of the week", last.nextKeeper(), 0);
    }

    /** "the one who has kept the fewest watches so far keeps it, the smallest number on a tie" */
    private static void fewestWatches() {
        StringBuilder text = new StringBuilder("house 2 0 0");
        for (char name = 'a'; name <= 'h'; name++) {
            text.append(";lodger ").append(name).append(" 1 30 0 0");
        }
        WatchLodgers eight = Check.loaded(text.toString());
        for (int watch = 0; watch < 20; watch++) {
            Check.same("S3 the smallest number of those with the fewest watches", eight.nextKeeper(), watch % 8);
            eight.passWatches(1);
        }
        WatchLodgers fewest = Check.loaded("house 2 0 0;lodger a 1 30 0 0;lodger b 1 30 0 0;lodger c 1 30 0 0;"
                + "roster 0 0 1;roster 0 1 0;watches 2");
        Check.same("S3 the fewest watches before the smallest number", fewest.nextKeeper(), 2);
        fewest.setExempt(2, 2, true);
        Check.same("S3 of those without an obstacle", fewest.nextKeeper(), 1);
        Check.that("S3 this lodger is a substitute", fewest.isNextSubstitute());
        fewest.passWatches(1);
        Check.same("S3 substitutes are counted", fewest.substitutions(), 1);
    }

    /** "If there is no such lodger, the watch is dark" */
    private static void dark() {
        WatchLodgers lodgers = Check.loaded("house 2 0 0;lodger a 1 2 0 0;roster 0 1 0");
        Check.same("S3 a lodger for the first watch", lodgers.passWatches(1), 0);
        Check.same("S3 no lodger for the second", lodgers.nextKeeper(), WatchLodgers.NONE);
        Check.that("S3 a dark watch has no substitute", !lodgers.isNextSubstitute());
        Check.same("S3 the second is dark", lodgers.passWatches(1), 1);
        Check.same("S3 dark ones are counted", lodgers.darkWatches(), 1);
        Check.same("S3 a dark watch is no substitution", lodgers.substitutions(), 1);
        Check.same("S3 nobody kept the watch before", lodgers.previousKeeper(), WatchLodgers.NONE);
    }

    /** "the fund decreases by 5, but not below 0" */
    private static void fundNotBelow0() {
        for (int rent = 0; rent <= 12; rent++) {
            WatchLodgers lodgers = Check.loaded("house 2 " + rent + " 0;lodger a 0 0 0 200;watches 4");
            Check.same("S3 fund", lodgers.fund(), rent);
            lodgers.passWatches(1);
            Check.same("S3 a dark watch with " + rent + " in the fund", lodgers.fund(), Math.max(0, rent - 5));
            Check.same("S3 consistent", lodgers.inconsistencies(), 0);
        }
    }

    /** "The energy of the lodger who keeps the watch decreases by the cost, and the coins increase by the wage." */
    private static void energyAndWage() {
        WatchLodgers least = Check.loaded("house 9 0 0;lodger a 0 13 0 0;storm 0 9;watches 1");
        Check.same("S3 all energy is the cost", least.energy(0), 0);
        Check.same("S3 a wage of 0", least.coins(0), 0);
        WatchLodgers greatest = Check.loaded("house 2 0 20;lodger a 1 30 0 200;lodger b 1 30 0 0;watches 1");
        Check.same("S3 the least cost", greatest.energy(0), 29);
        Check.same("S3 a wage of 20, above 200 coins", greatest.coins(0), 220);
        Check.same("S3 energy of another", greatest.energy(1), 30);
        Check.same("S3 coins of another", greatest.coins(1), 0);
        Check.same("S3 the fund does not pay the wage", greatest.fund(), 0);
    }

    /** "After watch 3, the day ends." */
    private static void endAfterWatch3() {
        WatchLodgers lodgers = Check.loaded("house 2 3 0;lodger a 1 10 0 9;meals 9;gulls 1" + OFF);
        lodgers.passWatches(3);
        Check.same("S3 before watch 3: energy", lodgers.energy(0), 10);
        Check.same("S3 before watch 3: meals", lodgers.meals(), 9);
        Check.same("S3 before watch 3: coins", lodgers.coins(0), 9);
        Check.same("S3 before watch 3: day", lodgers.day(), 0);
        lodgers.passWatches(1);
        Check.same("S3 after watch 3: energy", lodgers.energy(0), 18);
        Check.same("S3 after watch 3: meals", lodgers.meals(), 7);
        Check.same("S3 after watch 3: coins", lodgers.coins(0), 6);
        Check.same("S3 after watch 3: day", lodgers.day(), 1);
        Check.same("S3 after watch 3: watch", lodgers.watch(), 0);
    }

    /** "in all steps but "Gulls" the lodgers who are present have their turns" */
    private static void onlyThePresent() {
        // a is gone without energy and with 2 sick days, which do not pass while a is gone
        String gone = "house 2 50 0;lodger a 1 0 0 0;watches 8";
        WatchLodgers lodgers = Check.loaded(gone + ";meals 9;gale 9;watches 20");
        Check.same("S4 the gone do not rest, eat or starve", lodgers.energy(0), 0);
        Check.same("S4 the gone take no meals", Check.loaded(gone + ";meals 9;watches 4").meals(), 9);
        Check.same("S4 the gone owe nothing more", lodgers.debt(0), 100);
        Check.same("S4 the sick days of the gone do not decrease",
                Check.loaded(gone + ";watches 20;readmit 0;meals 9;feast").obstacle(0), 5);
        WatchLodgers rich = Check.loaded("house 2 50 0;lodger a 1 20 0 0;lodger b 1 0 0 200" + OFF
                + ";watches 8;lend 1 0 9;watches 3");
        int energy = rich.energy(0);
        rich.setStorm(2, 9);
        rich.passWatches(1);
        Check.same("S4 no hunger and no storm for the gone", rich.energy(0), energy);
        Check.same("S4 the gone pay nothing", rich.coins(0), 9);
    }

    /** "Rest: if the lodger kept no watch on this day, the energy increases by 2, but not above 30." */
    private static void rest() {
        // then 4 less for hunger
        Check.same("S4 rest to 29", energyAfterIdleDay(27, ""), 25);
        Check.same("S4 rest to 30", energyAfterIdleDay(28, ""), 26);
        Check.same("S4 rest not to 31", energyAfterIdleDay(29, ""), 26);
        Check.same("S4 rest not to 32", energyAfterIdleDay(30, ""), 26);
        Check.same("S4 no rest after one watch",
                afterDay("house 2 0 0;lodger a 1 20 0 0;exempt 0 1;exempt 0 2;exempt 0 3").energy(0), 20 - 1 - 4);
        Check.same("S4 no rest after watch 3",
                afterDay("house 2 0 0;lodger a 1 20 0 0;exempt 0 0;exempt 0 1;exempt 0 2").energy(0), 20 - 1 - 4);
        WatchLodgers nextDay = Check.loaded("house 2 0 0;lodger a 1 20 0 0;exempt 0 1;exempt 0 2;exempt 0 3;watches 4");
        nextDay.setExempt(0, 0, true);
        nextDay.passWatches(4);
        Check.same("S4 rest with a watch on the day before only", nextDay.energy(0), 15 + 2 - 4);
    }

    /** "The number of sick days decreases by 1, but not below 0." */
    private static void sickDaysDecrease() {
        WatchLodgers lodgers = Check.loaded("house 2 0 0;lodger a 1 9 0 0" + OFF + ";meals 100;watches 40;gulls 0");
        lodgers.setExempt(0, 0, false);
        Check.same("S4 never sick", lodgers.obstacle(0), 0);
        // 14 days without meals, 13 of them in health
        String well = "house 2 0 0;lodger a 1 30 0 0" + OFF + ";watches 56;repeat 5(meals 50);feast;release 0 0";
        WatchLodgers sick = Check.loaded(well);
        Check.same("S4 2 sick days after days of health", sick.obstacle(0), 5);
        Check.same("S4 1 sick day after days of health", Check.loaded(well + ";exempt 0 0;watches 4;release 0 0")
                .obstacle(0), 5);
        Check.same("S4 no sick day after days of health", Check.loaded(well + ";exempt 0 0;watches 8;release 0 0")
                .obstacle(0), 0);
    }

    /** "Gulls: the meals in the pantry decrease by the number of gulls, but not below 0." */
    private static void mealsNotBelow0() {
        // one meal is eaten where one is left
        int[][] mealsGullsLeft = {{0, 0, 0}, {0, 1, 0}, {0, 20, 0}, {5, 4, 0}, {5, 5, 0}, {5, 6, 0}, {7, 5, 1},
            {1, 0, 0}, {2, 0, 1}, {100, 20, 79}, {20, 20, 0}, {22, 20, 1}};
        for (int[] row : mealsGullsLeft) {
            String meals = row[0] == 0 ? "" : ";meals " + row[0];
            WatchLodgers lodgers = afterDay("house 2 0 0;lodger a 1 10 0 0" + meals + ";gulls " + row[1] + OFF);
            Check.same("S4 meals of " + row[0] + " after " + row[1] + " gulls", lodgers.meals(), row[2]);
            Check.same("S4 a meal is left", lodgers.energy(0), row[0] > row[1] ? 18 : 8);
        }
    }

    /** "After that, the number of gulls increases by 1, but not above 20, if there are meals left" */
    private static void gullsUpTo20() {
        for (int gulls : new int[] {0, 1, 18, 19, 20}) {
            String house = "house 2 0 0;lodger a 1 10 0 0;gulls " + gulls;
            int due = Math.min(20, gulls + 1);
            Check.same("S4 gulls with many meals left", afterDay(house + ";meals 100").gulls(), due);
            Check.same("S4 gulls with one meal left", afterDay(house + ";meals " + (gulls + 1)).gulls(), due);
        }
        WatchLodgers lodgers = Check.loaded("house 2 0 0;lodger a 1 10 0 0;gulls 17;repeat 9(meals 100)");
        for (int due : new int[] {18, 19, 20, 20, 20}) {
            lodgers.passWatches(4);
            Check.same("S4 gulls of days with meals", lodgers.gulls(), due);
        }
    }

    /** "and otherwise decreases by 1, but not below 0" */
    private static void gullsDownTo0() {
        for (int gulls : new int[] {1, 2, 19, 20}) {
            String house = "house 2 0 0;lodger a 1 10 0 0;gulls " + gulls;
            Check.same("S4 gulls without meals", afterDay(house).gulls(), gulls - 1);
            Check.same("S4 gulls with just no meal left", afterDay(house + ";meals " + gulls).gulls(), gulls - 1);
        }
        WatchLodgers lodgers = Check.loaded("house 2 0 0;lodger a 1 10 0 0;gulls 2");
        for (int due : new int[] {1, 0, 0, 0}) {
            lodgers.passWatches(4);
            Check.same("S4 gulls of days without meals", lodgers.gulls(), due);
        }
    }

    /** "in all steps but "Gulls"": gulls come also when all lodgers are gone */
    private static void gullsWithoutLodgers() {
        WatchLodgers lodgers = Check.loaded("house 2 50 0;lodger a 1 0 0 0;watches 8;meals 10;gulls 3;watches 4");
        Check.same("S4 meals without lodgers", lodgers.meals(), 7);
        Check.same("S4 gulls without lodgers", lodgers.gulls(), 4);
        lodgers.passWatches(8);
        Check.same("S4 meals without lodgers, not below 0", lodgers.meals(), 0);
        Check.same("S4 gulls without lodgers and meals", lodgers.gulls(), 4);
    }

    /** "Meals: if there is a meal, the lodger eats it, and the energy increases by 6, but not above 30" */
    private static void eating() {
        for (int energy = 0; energy <= 30; energy++) {
            int rested = Math.min(30, energy + 2);
            Check.same("S4 a meal after the rest from " + energy, energyAfterIdleDay(energy, ";meals 1"),
                    Math.min(30, rested + 6));
            Check.same("S4 a feast with " + energy, Check.loaded("house 2 0 0;lodger a 1 " + energy
                    + " 0 0;meals 1;feast").energy(0), Math.min(30, energy + 6));
        }
    }

    /** "otherwise the energy decreases by 4, but not below 0" */
    private static void hunger() {
        for (int energy = 0; energy <= 30; energy++) {
            int rested = Math.min(30, energy + 2);
            Check.same("S4 hunger after the rest from " + energy, energyAfterIdleDay(energy, ""),
                    Math.max(0, rested - 4));
            Check.same("S4 a feast without meals with " + energy, Check.loaded("house 2 0 0;lodger a 1 " + energy
                    + " 0 0;feast").energy(0), Math.max(0, energy - 4));
        }
    }

    /** "have their turns in the order of their numbers" */
    private static void turnsInOrder() {
        for (int meals = 1; meals <= 3; meals++) {
            WatchLodgers lodgers = Check.loaded("house 2 0 0;lodger c 1 10 0 0;lodger b 1 10 0 0;lodger a 1 10 0 0;"
                    + "meals " + meals + ";feast");
            for (int lodger = 0; lodger < 3; lodger++) {
                Check.same("S4 turn of lodger " + lodger, lodgers.energy(lodger), lodger < meals ? 16 : 6);
            }
        }
    }

    /** "the strength of the storm of this day minus 3 for each blanket of the lodger; if this is not positive, nothing
     * happens" */
    private static void blanketsInStorms() {
        for (int strength = 0; strength <= 9; strength++) {
            for (int blankets = 0; blankets <= 3; blankets++) {
                WatchLodgers lodgers = afterDay("house 2 0 0;lodger a 1 30 " + blankets + " 0" + OFF
                        + ";storm 0 " + strength);
                Check.same("S4 storm " + strength + " with " + blankets + " blankets", lodgers.energy(0),
                        26 - Math.max(0, strength - 3 * blankets));
            }
        }
        WatchLodgers lastDay = Check.loaded("house 2 0 0;lodger a 1 30 0 0" + OFF
                + ";repeat 9(meals 100);watches 24;storm 6 9;watches 4");
        Check.same("S4 the storm of the last weekday", lastDay.energy(0), 30 - 9);
        lastDay.passWatches(4);
        Check.same("S4 no storm on the weekday behind it", lastDay.energy(0), 29);
    }

    /** "the energy does not fall below 0" */
    private static void stormNotBelow0() {
        for (int energy = 2; energy <= 14; energy++) {
            Check.same("S4 storm 9 with " + energy, energyAfterIdleDay(energy, ";storm 0 9"),
                    Math.max(0, energy + 2 - 4 - 9));
        }
    }

    /** "If the energy of the lodger is 0 at the end of this turn, whether the storm decreased it or not, the number of
     * sick days becomes 2." */
    private static void sickWithoutEnergy() {
        String then = ";watches 4;meals 9;feast;release 0 0";
        String house = "house 2 0 0;lodger a 1 ";
        Check.same("S4 storm to 0", Check.loaded(house + "11 0 0;storm 0 9" + OFF + then).obstacle(0), 5);
        Check.same("S4 storm beyond 0", Check.loaded(house + "10 0 0;storm 0 9" + OFF + then).obstacle(0), 5);
        Check.same("S4 storm to 1", Check.loaded(house + "12 0 0;storm 0 9" + OFF + then).obstacle(0), 0);
        Check.same("S4 0 without a storm", Check.loaded(house + "2 0 0" + OFF + then).obstacle(0), 5);
        Check.same("S4 1 without a storm", Check.loaded(house + "3 0 0" + OFF + then).obstacle(0), 0);
        Check.same("S4 0 with enough blankets", Check.loaded(house + "2 3 0;storm 0 9" + OFF + then).obstacle(0), 5);
        Check.same("S4 a feast at 0 is no end of a day", Check.loaded(house + "0 0 0;feast;meals 9;feast").obstacle(0), 0);
        // sick again before the 2 days are over: the number becomes 2, not 3
        String again = house + "0 0 0" + OFF + ";watches 8;meals 50;feast;watches ";
        Check.same("S4 becomes 2: 1 day later", Check.loaded(again + "4;release 0 0").obstacle(0), 5);
        Check.same("S4 becomes 2: 2 days later", Check.loaded(again + "8;release 0 0").obstacle(0), 0);
    }

    /** "At the end of a day these steps follow one another" */
    private static void orderOfSteps() {
        Check.same("S4 rest before meals", energyAfterIdleDay(0, ";meals 1"), 8);
        Check.same("S4 rest before hunger", energyAfterIdleDay(29, ""), 26);
        Check.same("S4 gulls before meals", energyAfterIdleDay(10, ";meals 1;gulls 1"), 8);
        Check.same("S4 meals before the storm", energyAfterIdleDay(0, ";meals 1;storm 0 5"), 3);
        Check.same("S4 hunger before the storm", Check.loaded("house 2 0 0;lodger a 1 3 0 0;storm 0 1" + OFF
                + ";watches 4;meals 9;feast;release 0 0").obstacle(0), 5);
        Check.same("S4 the storm before the rent", Check.loaded("house 2 50 0;lodger a 1 12 0 0" + OFF
                + ";storm 1 9;watches 8;readmit 0;meals 9;feast").obstacle(0), 5);
    }

    /** "the lodger owes the rent minus 2 for each watch that the lodger kept on this day, but not less than 0" */
    private static void rentNotLessThan0() {
        for (int rent = 0; rent <= 6; rent++) {
            String house = "house 2 " + rent + " 0;lodger a 1 20 0 9";
            Check.same("S4 rent " + rent + " after two watches", afterDay(house).coins(0), 9 - Math.max(0, rent - 4));
            Check.same("S4 rent " + rent + " after one watch",
                    afterDay(house + ";exempt 0 1;exempt 0 2;exempt 0 3").coins(0), 9 - Math.max(0, rent - 2));
            WatchLodgers idle = afterDay(house + OFF);
            Check.same("S4 rent " + rent + " after no watch", idle.coins(0), 9 - rent);
            Check.same("S4 no debt", idle.debt(0), 0);
        }
    }

    /** "As much of it as possible is paid from the coins to the fund; the rest increases the debt." */
    private static void asMuchAsPossible() {
        for (int coins = 0; coins <= 12; coins++) {
            WatchLodgers lodgers = afterDay("house 2 10 0;lodger a 1 20 0 " + coins + OFF);
            int paid = Math.min(10, coins);
            Check.same("S4 coins left of " + coins, lodgers.coins(0), coins - paid);
            Check.same("S4 fund with " + coins, lodgers.fund(), paid);
            Check.same("S4 debt with " + coins, lodgers.debt(0), 10 - paid);
            lodgers.passWatches(4);
            Check.same("S4 the rest increases the debt", lodgers.debt(0), 20 - coins);
        }
    }

    /** "If the debt is greater than 50 then, the lodger is gone" */
    private static void debtGreaterThan50() {
        WatchLodgers fifty = Check.loaded("house 2 25 0;lodger a 1 20 0 0" + OFF + ";watches 8");
        Check.same("S4 a debt of 50", fifty.debt(0), 50);
        Check.that("S4 a debt of 50", fifty.isPresent(0));
        WatchLodgers fiftyOne = Check.loaded("house 2 17 0;lodger a 1 20 0 0" + OFF + ";watches 12");
        Check.same("S4 a debt of 51", fiftyOne.debt(0), 51);
        Check.that("S4 a debt of 51", !fiftyOne.isPresent(0));
        WatchLodgers paid = Check.loaded("house 2 26 0;lodger a 1 20 0 2" + OFF + ";watches 8");
        Check.that("S4 52 owed and 2 paid", paid.isPresent(0));
        WatchLodgers atOnce = Check.loaded("house 2 50 0;lodger a 1 20 0 0" + OFF + ";watches 4");
        Check.that("S4 the greatest rent once", atOnce.isPresent(0));
        WatchLodgers wait = Check.loaded("house 2 50 0;lodger a 1 20 0 0" + OFF + ";watches 7");
        Check.that("S4 only at the end of a day", wait.isPresent(0));
    }

    /** "the entries of the roster and the exemptions of this lodger are removed" */
    private static void removedOfTheGone() {
        StringBuilder text = new StringBuilder("house 2 50 0;lodger a 1 0 0 0;lodger b 1 0 0 200");
        for (int watch = 0; watch < 4; watch++) {
            text.append(";exempt 0 ").append(watch).append(";exempt 1 ").append(watch);
        }
        WatchLodgers lodgers = Check.loaded(text.toString());
        for (int entry = 0; entry < 28; entry++) {
            lodgers.assign(entry / 4, entry % 4, entry == 13 ? 1 : 0);
        }
        lodgers.passWatches(8);
        Check.that("S4 a is gone", !lodgers.isPresent(0));
        Check.same("S4 the entry of b stays", lodgers.rosterSize(), 1);
        Check.same("S4 the entry of b stays", lodgers.entryAt(0), 13);
        Check.same("S4 no entries of a", lodgers.entriesOf(0), 0);
        Check.same("S4 the exemptions of b stay", lodgers.exemptionCount(), 4);
        for (int watch = 0; watch < 4; watch++) {
            Check.that("S4 no exemptions of a", !lodgers.isExempt(0, watch));
            Check.that("S4 the exemptions of b stay", lodgers.isExempt(1, watch));
        }
        lodgers.assign(6, 3, 1);
        Check.same("S4 a new entry afterwards is the last", lodgers.entryAt(1), 27);
    }
}
