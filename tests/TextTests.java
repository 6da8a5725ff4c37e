/** Section 5: the tokens, the grammar, what each line does, and every error code with its position. */
final class TextTests {
    private static final String HOUSE = "house 3 6 2;lodger a 0 5 0 9;lodger b 1 6 1 0";

    private TextTests() {
    }

    static void run() {
        tokens();
        header();
        lodgerLines();
        rosterLines();
        exemptionLines();
        houseLines();
        lodgerChanges();
        copyAndSwap();
        tidyAndRotate();
        watchesLine();
        repeatLines();
        goneLodgers();
        endOfText();
    }

    private static void lineError(int code, String markedLine) {
        Check.textError(code, HOUSE + ";" + markedLine);
    }

    private static WatchLodgers with(String lines) {
        return Check.loaded(HOUSE + ";" + lines);
    }

    private static void tokens() {
        WatchLodgers tight = Check.loaded("house3 6 2;lodger a0 5 0 9;roster0 0 0;repeat2(meals007)");
        Check.same("words and numbers need no space", tight.meals(), 14);
        Check.same("leading zeros", Check.loaded("  house 003  06 2 ; lodger a 0 005 0 9 ").floors(), 3);
        Check.textError(1, "^House 3 6 2");
        Check.textError(1, "house ^0003 6 2");
        Check.textError(1, "house ^-3 6 2");
        Check.textError(1, "house 3^\t6 2");
        Check.textError(1, "house 3 6 2^,lodger a 0 5 0 9");
        Check.textError(1, "^houses 3 6 2");
        Check.textError(1, "^houseab 3 6 2");
        Check.textError(1, "house 3 6 2;^lodgerab a 0 5 0 9");
        Check.textError(1, "house 3 6 2;lodger ^abcdefgh 0 5 0 9");
        lineError(1, "meals ^1000");
        lineError(2, "meals ^999");
        lineError(1, "storm 0 ^;");
        lineError(1, "^_");
        lineError(1, "^\u00e9");
        lineError(1, "^\u0000");
        lineError(1, "tidy ^1");
        lineError(1, "^xodger c 0 5 0 0");
        lineError(1, "^tidx");
        lineError(1, "^tid");
    }

    private static void header() {
        Check.textError(1, "^hous");
        Check.textError(1, "^3");
        Check.textError(1, "house^");
        Check.textError(1, "house ^a");
        Check.textError(2, "house ^1 6 2");
        Check.textError(2, "house ^10 6 2");
        Check.textError(2, "house 2 ^51 2");
        Check.textError(2, "house 2 50 ^21");
        Check.textError(1, "house 2 50 ^;");
        Check.textError(1, "house 2 50 20 ^1");
        Check.textError(1, "house 2 50 20 ^lodger");
        Check.textError(1, "house 2 50 20 ^)");
        Check.textError(1, "house 2 50 20;^house 2 50 20");
        Check.textError(1, "house 3 6 2^(lodger a 0 5 0 9");
        Check.textError(1, "house 3 6 2^.lodger a 0 5 0 9");
        Check.same("greatest floors", Check.loaded("house 9 50 20;lodger a 8 30 3 200").floors(), 9);
        Check.same("greatest rent", Check.loaded("house 9 50 20;lodger a 8 30 3 200").rent(), 50);
        Check.same("greatest wage", Check.loaded("house 9 50 20;lodger a 8 30 3 200").wage(), 20);
        Check.same("least rent and wage", Check.loaded("house 2 0 0;lodger a 0 0 0 0").rent(), 0);
    }

    private static void lodgerLines() {
        Check.textError(1, "house 3 6 2;lodger ^1 0 5 0 9");
        Check.textError(3, "house 3 6 2;lodger ^abcdefg 0 5 0 9");
        Check.textError(2, "house 3 6 2;lodger a ^3 5 0 9");
        Check.textError(2, "house 3 6 2;lodger a 2 ^31 0 9");
        Check.textError(2, "house 3 6 2;lodger a 2 30 ^4 9");
        Check.textError(2, "house 3 6 2;lodger a 2 30 3 ^201");
        lineError(3, "lodger ^a 0 5 0 9");
        lineError(3, "lodger ^b 0 5 0 9");
        lineError(1, "lodger ^; 0 5 0 9");
        Check.same("a name that begins like another", with("lodger ab 0 5 0 9;lodger ba 0 5 0 9").lodgerCount(), 4);
        lineError(1, "lodger c 0 5 0^");
        lineError(1, "lodger c 0 5 0 9 ^9");
        WatchLodgers words = Check.loaded("house 3 6 2;lodger lodger 0 5 0 9;lodger house 1 5 0 9;lodger repeat 2 5 0 9");
        Check.same("words of the grammar as names", words.lodgerCount(), 3);
        StringBuilder text = new StringBuilder("house 3 6 2");
        for (char name = 'a'; name <= 'h'; name++) {
            text.append(";lodger ").append(name).append(" 0 5 0 9");
        }
        Check.same("eight lodgers", Check.loaded(text.toString()).lodgerCount(), 8);
        Check.textError(4, text + ";^lodger i 0 5 0 9");
        Check.textError(4, text + ";^lodger a 0 5 0 9");
    }

    private static void rosterLines() {
        WatchLodgers lodgers = with("roster 6 3 1;roster 0 0 0;roster 2 1 1;roster 0 0 1;clear 6 3;roster 6 3 0");
        Check.same("entries", lodgers.rosterSize(), 3);
        Check.same("a replaced lodger keeps the place", lodgers.entryAt(0), 0);
        Check.same("replaced lodger", lodgers.rostered(0, 0), 1);
        Check.same("the next one", lodgers.entryAt(1), 9);
        Check.same("a new entry is the last", lodgers.entryAt(2), 27);
        lineError(2, "roster ^7 0 0");
        lineError(2, "roster 0 ^4 0");
        lineError(2, "roster 0 0 ^2");
        Check.textError(2, "house 3 6 2;roster 0 0 ^0");
        lineError(1, "roster 0 0^");
        lineError(2, "clear ^7 0");
        lineError(2, "clear 0 ^4");
        lineError(3, "clear 0 ^0");
        lineError(3, "roster 0 0 1;clear 0 0;clear 0 ^0");
        lineError(3, "roster 1 0 1;clear 0 ^1");
    }

    private static void exemptionLines() {
        WatchLodgers lodgers = with("exempt 0 3;exempt 1 3;exempt 1 0;release 1 3");
        Check.same("exemptions", lodgers.exemptionCount(), 2);
        Check.that("exempt 0 3", lodgers.isExempt(0, 3));
        Check.that("exempt 1 0", lodgers.isExempt(1, 0));
        Check.that("released 1 3", !lodgers.isExempt(1, 3));
        lineError(2, "exempt ^2 0");
        lineError(2, "exempt 0 ^4");
        lineError(3, "exempt 0 1;exempt 0 ^1");
        lineError(2, "release ^2 0");
        lineError(2, "release 0 ^4");
        lineError(3, "release 0 ^1");
        lineError(3, "exempt 0 1;release 1 ^1");
    }

    private static void houseLines() {
        WatchLodgers lodgers = with("gale 4;storm 6 9;storm 0 0;meals 1;meals 100;gulls 5;gulls 20");
        Check.same("gale", lodgers.storm(3), 4);
        Check.same("storm", lodgers.storm(6), 9);
        Check.same("no storm", lodgers.storm(0), 0);
        Check.same("meals are added", lodgers.meals(), 101);
        Check.same("gulls are set", lodgers.gulls(), 20);
        Check.same("gale of 0", with("gale 4;gale 0").storm(6), 0);
        Check.same("no gulls", with("gulls 4;gulls 0").gulls(), 0);
        lineError(2, "storm ^7 0");
        lineError(2, "storm 0 ^10");
        lineError(2, "gale ^10");
        lineError(2, "meals ^0");
        lineError(2, "meals ^101");
        lineError(2, "gulls ^21");
        WatchLodgers fed = with("meals 1;feast");
        Check.same("feast takes meals", fed.meals(), 0);
        Check.same("feast feeds the first", fed.energy(0), 11);
        Check.same("feast without a meal", fed.energy(1), 2);
        Check.same("feast not below 0", with("feast;feast").energy(0), 0);
        Check.same("feast not above 30", with("meals 100;repeat 9(feast)").energy(1), 30);
        Check.same("feast counts no gulls", with("meals 9;gulls 3;feast").gulls(), 3);
    }

    private static void lodgerChanges() {
        WatchLodgers lodgers = with("blanket 1;blanket 1;move 0 2;lend 0 1 4");
        Check.same("blankets", lodgers.blankets(1), 3);
        Check.same("moved", lodgers.floorOf(0), 2);
        Check.same("lent from", lodgers.coins(0), 5);
        Check.same("lent to", lodgers.coins(1), 4);
        Check.same("nothing is owed", lodgers.debt(1), 0);
        Check.same("lending is consistent", lodgers.inconsistencies(), 0);
        Check.same("moved to the bottom", with("move 1 0").floorOf(1), 0);
        lineError(2, "blanket ^2");
        lineError(3, "blanket 1;blanket 1;blanket ^1");
        lineError(2, "move ^2 0");
        lineError(2, "move 0 ^3");
        lineError(3, "move 1 ^1");
        lineError(2, "lend ^2 0 1");
        lineError(2, "lend 0 ^2 1");
        lineError(3, "lend 0 ^0 1");
        lineError(2, "lend 0 1 ^0");
        lineError(2, "lend 0 1 ^201");
        lineError(3, "lend 0 1 ^10");
        lineError(3, "lend 1 0 ^1");
        Check.same("all coins lent", with("lend 0 1 9").coins(0), 0);
        lineError(2, "pay ^2");
        lineError(2, "readmit ^2");
        lineError(3, "readmit ^0");
        WatchLodgers payer = with("exempt 1 0;exempt 1 1;exempt 1 2;exempt 1 3;watches 8;lend 0 1 1;pay 1");
        // b owes 6 on each of two days without a coin; the coin that is lent pays a part
        Check.same("pay takes the coins", payer.coins(1), 0);
        Check.same("pay lowers the debt", payer.debt(1), 11);
        Check.same("pay goes to the fund", payer.inconsistencies(), 0);
        Check.same("pay without a debt", with("pay 0").coins(0), 9);
    }

    private static void copyAndSwap() {
        WatchLodgers lodgers = with("roster 1 3 0;roster 1 1 1;roster 2 3 1;copy 1 2");
        Check.same("copy creates", lodgers.rostered(2, 1), 1);
        Check.same("copy replaces", lodgers.rostered(2, 3), 0);
        Check.same("copy keeps the others", lodgers.rostered(2, 0), WatchLodgers.NONE);
        Check.same("a replaced entry keeps the place", lodgers.entryAt(2), 11);
        Check.same("a created entry is the last", lodgers.entryAt(3), 9);
        WatchLodgers ordered = with("roster 1 3 0;roster 1 1 1;copy 1 0");
        Check.same("copy in the order of the watches", ordered.entryAt(2), 1);
        Check.same("copy, the last watch", ordered.entryAt(3), 3);
        Check.same("copy from the last weekday", with("roster 6 0 1;copy 6 0").rostered(0, 0), 1);
        Check.same("copy to the last weekday", with("roster 0 0 1;copy 0 6").rostered(6, 0), 1);
        lineError(2, "copy ^7 0");
        lineError(2, "copy 0 ^7");
        lineError(3, "copy 3 ^3");
        Check.same("copy of nothing", with("copy 0 1").rosterSize(), 0);
        WatchLodgers swapped = with("roster 1 3 0;roster 0 1 1;swap 1 3 0 1");
        Check.same("swap first", swapped.rostered(1, 3), 1);
        Check.same("swap second", swapped.rostered(0, 1), 0);
        Check.same("swap keeps places", swapped.entryAt(0), 7);
        lineError(2, "swap ^7 0 0 0");
        lineError(2, "swap 0 ^4 0 0");
        lineError(3, "swap 0 ^0 0 0");
        lineError(2, "roster 0 0 0;swap 0 0 ^7 0");
        lineError(2, "roster 0 0 0;swap 0 0 0 ^4");
        lineError(3, "roster 0 0 0;swap 0 0 0 ^0");
        lineError(3, "roster 0 0 0;swap 0 0 0 ^1");
    }

    private static void tidyAndRotate() {
        WatchLodgers tidied = with("roster 0 1 0;roster 3 1 1;roster 5 1 0;roster 5 2 0;exempt 0 1;tidy");
        Check.same("tidy removes", tidied.rosterSize(), 2);
        Check.same("tidy keeps the order", tidied.entryAt(0), 13);
        Check.same("tidy keeps other watches", tidied.entryAt(1), 22);
        Check.same("tidy keeps exemptions", tidied.exemptionCount(), 1);
        Check.same("tidy of the first and the last", with("roster 0 0 0;roster 6 3 1;exempt 0 0;exempt 1 3;tidy")
                .rosterSize(), 0);
        WatchLodgers rotated = with("lodger c 0 5 0 0;roster 0 1 2;roster 0 0 0;roster 0 2 1;rotate");
        Check.same("rotate to the next", rotated.rostered(0, 0), 1);
        Check.same("rotate on", rotated.rostered(0, 2), 2);
        Check.same("rotate to the smallest", rotated.rostered(0, 1), 0);
        Check.same("rotate keeps places", rotated.entryAt(0), 1);
        Check.same("rotate alone", Check.loaded("house 2 0 0;lodger a 0 5 0 0;roster 0 1 0;rotate").rostered(0, 1), 0);
        Check.same("rotate nothing", with("rotate;tidy").rosterSize(), 0);
    }

    private static void watchesLine() {
        Check.same("watches", with("watches 60;watches 1").watchesPassed(), 61);
        lineError(2, "watches ^0");
        lineError(2, "watches ^61");
        Check.same("1000 watches", with("repeat 4(repeat 4(watches 60));watches 40").watchesPassed(), 1000);
        lineError(4, "repeat 4(repeat 4(watches 60));watches ^41");
        lineError(4, "repeat 4(repeat 5(watches ^60))");
        lineError(4, "repeat 2(repeat 5(watches 50));repeat 2(repeat 5(watches 50));watches ^1");
        lineError(2, "repeat 2(repeat 5(watches 50));repeat 2(repeat 5(watches 50));watches ^61");
    }

    private static void repeatLines() {
        Check.same("repeat", with("repeat 3(meals 2;meals 1)").meals(), 9);
        Check.same("repeat once", with("repeat 1(meals 2)").meals(), 2);
        Check.same("repeat in repeat", with("repeat 9(meals 1;repeat 9(meals 1);meals 1)").meals(), 99);
        Check.same("repeat behind repeat", with("repeat 2(repeat 2(meals 1);repeat 3(meals 1));meals 5").meals(), 15);
        Check.same("both brackets at once", with("repeat 2(repeat 3(meals 1))").meals(), 6);
        lineError(2, "repeat ^0(tidy)");
        lineError(2, "repeat ^10(tidy)");
        lineError(1, "repeat 2 ^tidy");
        lineError(1, "repeat 2 ^;tidy)");
        lineError(1, "repeat 2 ^)");
        lineError(1, "repeat 2 ^[tidy)");
        lineError(1, "repeat 2(tidy^(");
        lineError(1, "repeat 2(tidy^]");
        lineError(1, "repeat 2(tidy ^tidy)");
        lineError(1, "tidy^(");
        lineError(1, "repeat 2(^)");
        lineError(1, "repeat 2(tidy;^)");
        lineError(1, "repeat 2(^;tidy)");
        lineError(1, "repeat 2(tidy^");
        lineError(1, "repeat 2(tidy) ^)");
        lineError(1, "repeat 2(tidy) ^tidy");
        lineError(1, "repeat 2(repeat 2(tidy)^");
        lineError(1, "repeat 2(repeat 2(tidy)) ^)");
        lineError(1, "tidy^)");
        lineError(1, "^(tidy)");
        lineError(4, "repeat 2(repeat 2(^repeat 2(tidy)))");
        lineError(4, "repeat 2(tidy;repeat 2(tidy;^repeat");
        lineError(3, "repeat 2(lodger ^c 0 5 0 0)");
        lineError(3, "repeat 3(blanket ^1)");
        lineError(3, "roster 0 0 0;repeat 2(clear 0 ^0);zap");
        lineError(3, "repeat 2(exempt 0 0;release 1 ^0)");
        lineError(3, "repeat 2(exempt 0 ^0)");
        lineError(1, "roster 0 0 0;repeat 2(clear 0 0 ^zap)");
        lineError(3, "repeat 2(repeat 5(lend 0 1 ^1))");
        Check.textError(3, "house 3 6 2;repeat 9(lodger ^a 0 5 0 9)");
    }

    private static void goneLodgers() {
        // a pays the rent of 50 on days 0 to 3, b is gone after day 1 with a debt of 100
        String gone = "house 2 50 0;lodger a 0 9 0 200;lodger b 0 9 0 0;roster 3 0 1;exempt 1 0;exempt 1 1;exempt 1 2;"
                + "exempt 1 3;exempt 0 0;exempt 0 1;exempt 0 2;exempt 0 3;roster 3 1 0;watches 8;";
        Check.textError(3, gone + "roster 0 0 ^1");
        Check.textError(3, gone + "exempt ^1 0");
        Check.textError(3, gone + "exempt ^1 9");
        Check.textError(3, gone + "release ^1 0");
        Check.textError(3, gone + "move ^1 1");
        Check.textError(3, gone + "pay ^1");
        Check.textError(3, gone + "blanket ^1");
        Check.textError(3, gone + "lodger ^b 0 0 0 0");
        WatchLodgers lodgers = Check.loaded(gone + "lend 0 1 30;lend 1 0 10;meals 9;feast;rotate");
        Check.that("b is gone", !lodgers.isPresent(1));
        Check.same("a gone lodger borrows and lends", lodgers.coins(1), 20);
        Check.same("a gone lodger does not feast", lodgers.meals(), 8);
        Check.same("rotate passes over the gone", lodgers.rostered(3, 1), 0);
        Check.same("entries of the gone are removed", lodgers.rosterSize(), 1);
        Check.same("exemptions of the gone are removed", lodgers.exemptionCount(), 4);
        WatchLodgers back = Check.loaded(gone + "readmit 1;roster 0 0 1;exempt 1 1;blanket 1;move 1 1");
        Check.that("readmitted", back.isPresent(1));
        Check.same("readmitted without a debt", back.debt(1), 0);
        Check.same("readmitted without the old exemptions", back.exemptionCount(), 5);
        Check.same("readmitted on the roster", back.rostered(0, 0), 1);
        Check.textError(3, gone + "readmit 1;readmit ^1");
    }

    private static void endOfText() {
        Check.textError(4, "house 3 6 2^");
        Check.textError(4, "house 3 6 2   ^");
        Check.textError(4, "house 3 6 2;tidy;gale 3^");
        Check.textError(1, "house 3 6 2;^");
        Check.textError(1, "house 3 6 2; ^");
        Check.textError(1, "house 3 6^");
        Check.textError(1, "^");
        Check.textError(1, "   ^");
        lineError(1, "^");
        lineError(1, "repeat^");
        lineError(1, "repeat 2^");
        lineError(1, "repeat 2(^");
        Check.textError(1, "house 3 6 2;repeat 2(tidy^");
        lineError(1, "^zap");
        lineError(1, "^;");
        lineError(1, "^3");
    }
}
