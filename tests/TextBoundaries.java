/**
 * Section 5 of the document: a test for each sentence that names a boundary case, in the document's order.
 * The sentence stands above its test.
 */
final class TextBoundaries {
    private static final String TWO = "house 3 6 2;lodger a 0 5 0 9;lodger b 1 6 1 0";
    /** Gone from day 2 on: a, with a debt of 100; present: b. */
    private static final String GONE = "house 3 50 0;lodger a 0 0 0 0;lodger b 1 0 0 200;watches 8";

    private TextBoundaries() {
    }

    static void run() {
        bufferOf600();
        mostLines();
        words();
        numbers();
        otherBytes();
        spaces();
        endsOfTokens();
        leadingZeros();
        rangesOfHouse();
        rangesOfRoster();
        rangesOfHouseRules();
        rangesOfLodgerRules();
        rangesOfCounts();
        leftToRight();
        rosterCreates();
        mealsAreAdded();
        swapOfTheEnds();
        copyOfEachWatch();
        releaseAndTidy();
        rotateWrapsAround();
        galeForAll();
        feastIsTheStep();
        lendAll();
        payAsMuchAsPossible();
        readmit();
        repeatTimes();
        repeatDepth();
        parsedAnewEachTime();
        firstInvalidToken();
        smallestCode();
        positionOfTheEnd();
        code1AtEachToken();
        code2();
        code3Names();
        code3Gone();
        code3Entries();
        code3Exemptions();
        code3Others();
        code4Lodgers();
        code4Repeats();
        code4Watches();
        code4End();
    }

    private static WatchLodgers with(String lines) {
        return Check.loaded(TWO + ";" + lines);
    }

    private static void lineError(int code, String marked) {
        Check.textError(code, TWO + ";" + marked);
    }

    /** The number at the sign # is taken at the bounds, refused with code 2 beyond them, and code 1 if it is none. */
    private static void range(String text, int least, int greatest) {
        int at = text.indexOf('#');
        String before = text.substring(0, at);
        String after = text.substring(at + 1);
        for (int taken : new int[] {least, greatest}) {
            WatchLodgers lodgers = Check.loaded(before + taken + after);
            Check.same("S5 '" + text + "' with " + taken, lodgers.parseError(), 0);
        }
        for (int refused : new int[] {least - 1, greatest + 1, 999}) {
            if (refused >= 0) {
                Check.textError(2, before + "^" + refused + after);
            }
        }
        for (String none : new String[] {"1000", "0000", "a", "abcdefgh", ";", "(", ")", "-1", "@"}) {
            Check.textError(1, before + "^" + none + after);
        }
        Check.textError(1, before + "^");
    }

    /** "The input buffer holds at most 600 bytes." */
    private static void bufferOf600() {
        StringBuilder text = new StringBuilder(TWO);
        while (text.length() + 8 <= 591) {
            text.append(";meals 1");
        }
        int meals = (text.length() - TWO.length()) / 8;
        while (text.length() < 591) {
            text.append(' ');
        }
        text.append(";meals 42");
        WatchLodgers lodgers = new WatchLodgers();
        Check.same("S5 a text of 600 bytes", Check.load(lodgers, text.toString()), 2);
        Check.same("S5 up to its last byte", lodgers.meals(), meals + 42);
        Check.textError(1, text.substring(0, 599) + "^@");
        Check.textError(1, text.substring(0, 591) + ";meals   ^");
    }

    /** "at most 600 bytes", with the most lines that they hold, in two repeats of 9 times */
    private static void mostLines() {
        StringBuilder text = new StringBuilder("house 2 0 0;lodger a 0 0 0 0;repeat 9(repeat 9(meals 1");
        while (text.length() + 16 <= 600) {
            text.append(";tidy");
        }
        text.append(";meals 99))");
        WatchLodgers lodgers = Check.loaded(text.toString());
        Check.same("S5 each line 81 times", lodgers.meals(), 8100);
        Check.textError(3, text.substring(0, text.length() - 11).replace("meals 1", "tidy") + ";clear 0 ^0))");
    }

    /** "words (1 to 7 lower-case letters)" */
    private static void words() {
        Check.same("S5 words of 7 letters", with("blanket 0;watches 1").watchesPassed(), 1);
        Check.same("S5 a word of 1 letter", Check.loaded(TWO).lodgerLetter(0, 0), 'a');
        lineError(1, "^blankets 0");
        lineError(1, "^b 0");
        lineError(1, "^TIDY");
        lineError(1, "^tidY");
        lineError(1, "lodger ^abcdefgh 0 0 0 0");
        lineError(3, "lodger ^abcdefg 0 0 0 0");
    }

    /** "numbers (1 to 3 digits)" */
    private static void numbers() {
        Check.same("S5 1 digit", with("meals 7").meals(), 7);
        Check.same("S5 3 digits", with("meals 100").meals(), 100);
        lineError(1, "meals ^0100");
        lineError(1, "meals ^10000000000");
        lineError(1, "meals ^/1");
        lineError(1, "meals ^:1");
        lineError(1, "meals 1^:");
        lineError(1, "meals ^+1");
        lineError(1, "meals ^-1");
        lineError(1, "meals 1^.5");
    }

    /** "1: a byte that starts no token" */
    private static void otherBytes() {
        for (int sign = 0; sign < 256; sign++) {
            boolean letter = sign >= 'a' && sign <= 'z';
            boolean digit = sign >= '0' && sign <= '9';
            if (letter || digit || sign == ' ') {
                continue;
            }
            String text = sign == ';' ? TWO + ";^;tidy" : TWO + ";^" + (char) sign + "tidy";
            Check.textError(1, text);
            if (sign != ';') {
                Check.textError(1, TWO + "^" + (char) sign);
                Check.textError(1, "^" + (char) sign + TWO);
                Check.textError(1, TWO + ";meals 1^" + (char) sign + "0");
                Check.textError(1, TWO + ";lodger c^" + (char) sign + "0 0 0 0");
            }
        }
    }

    /** "Spaces (byte 32) separate tokens and are otherwise ignored." */
    private static void spaces() {
        WatchLodgers lodgers = Check.loaded("   house   3  6 2  ;  lodger   a   0 5   0 9 ; repeat  2 ( meals 1 ; tidy )  ");
        Check.same("S5 many spaces", lodgers.meals(), 2);
        Check.same("S5 no spaces", Check.loaded("house3 6 2;lodger a0 5 0 9;repeat2(meals1;tidy)").meals(), 2);
        lineError(2, "meals ^0 1");
        lineError(1, "meals 1 ^0");
        lineError(1, "^ti dy");
        lineError(1, "tidy^\n");
        lineError(1, "tidy^\t");
        lineError(1, "tidy^\r");
        Check.textError(1, "  ^");
    }

    /** "A word ends at the first byte that is not a lower-case letter, and a number ends at the first byte that is not
     * a digit." */
    private static void endsOfTokens() {
        Check.same("S5 a word ends at a digit", with("meals5").meals(), 5);
        lineError(1, "meals 5^x");
        lineError(1, "tidy^5");
        lineError(1, "tidy^(");
        Check.same("S5 a name ends at a digit", with("lodger cde1 30 3 200").floorOf(2), 1);
        Check.same("S5 a number ends at a bracket", with("repeat 3(meals 5)").meals(), 15);
        lineError(3, "lodger ^abcdefg0 0 0 0");
        lineError(1, "meals 5^_5");
    }

    /** "Leading zeros are allowed." */
    private static void leadingZeros() {
        WatchLodgers lodgers = Check.loaded("house 002 00 020;lodger a 001 030 03 008;roster 000 003 00;meals 001");
        Check.same("S5 floors 002", lodgers.floors(), 2);
        Check.same("S5 rent 00", lodgers.rent(), 0);
        Check.same("S5 wage 020", lodgers.wage(), 20);
        Check.same("S5 floor 001", lodgers.floorOf(0), 1);
        Check.same("S5 coins 008", lodgers.coins(0), 8);
        Check.same("S5 weekday 000, watch 003, lodger 00", lodgers.rostered(0, 3), 0);
        Check.same("S5 count 001", lodgers.meals(), 1);
        lineError(2, "meals ^000");
        lineError(2, "gale ^010");
        lineError(1, "meals ^0001");
    }

    /** "floors 2 to 9, rent 0 to 50, wage 0 to 20, energy 0 to 30, blankets 0 to 3, coins 0 to 200" and "A floor or
     * lodger is told by its number; it must exist." */
    private static void rangesOfHouse() {
        range("house # 0 0;lodger a 0 0 0 0", 2, 9);
        range("house 2 # 0;lodger a 0 0 0 0", 0, 50);
        range("house 2 0 #;lodger a 0 0 0 0", 0, 20);
        range("house 2 0 0;lodger a # 0 0 0", 0, 1);
        range("house 9 0 0;lodger a # 0 0 0", 0, 8);
        range("house 2 0 0;lodger a 0 # 0 0", 0, 30);
        range("house 2 0 0;lodger a 0 0 # 0", 0, 3);
        range("house 2 0 0;lodger a 0 0 0 #", 0, 200);
    }

    /** "weekday 0 to 6, watch 0 to 3" */
    private static void rangesOfRoster() {
        range(TWO + ";roster # 0 0", 0, 6);
        range(TWO + ";roster 0 # 0", 0, 3);
        range(TWO + ";roster 0 0 #", 0, 1);
        range("house 2 0 0" + HouseBoundaries.lodgers(8) + ";roster 0 0 #", 0, 7);
        range("house 2 0 0" + HouseBoundaries.lodgers(1) + ";roster 0 0 #", 0, 0);
        String ends = TWO + ";roster 0 0 0;roster 6 0 0;roster 0 3 1;roster 3 1 1;";
        range(ends + "clear # 0", 0, 6);
        range(ends + "clear 0 #", 0, 3);
        range(ends + "swap # 0 3 1", 0, 6);
        range(ends + "swap 0 # 3 1", 0, 3);
        range(ends + "swap 3 1 # 0", 0, 6);
        range(ends + "swap 3 1 0 #", 0, 3);
        range(TWO + ";copy # 3", 0, 6);
        range(TWO + ";copy 3 #", 0, 6);
        range(TWO + ";exempt # 0", 0, 1);
        range(TWO + ";exempt 1 #", 0, 3);
        range(TWO + ";exempt 0 0;exempt 1 0;release # 0", 0, 1);
        range(TWO + ";exempt 1 0;exempt 1 3;release 1 #", 0, 3);
    }

    /** "strength 0 to 9, count of "meals" 1 to 100, birds 0 to 20" */
    private static void rangesOfHouseRules() {
        range(TWO + ";storm # 0", 0, 6);
        range(TWO + ";storm 0 #", 0, 9);
        range(TWO + ";gale #", 0, 9);
        range(TWO + ";meals #", 1, 100);
        range(TWO + ";gulls #", 0, 20);
        Check.same("S5 strength 9", with("storm 6 9").storm(6), 9);
        Check.same("S5 strength 0", with("storm 6 9;storm 6 0").storm(6), 0);
        Check.same("S5 100 meals", with("meals 100").meals(), 100);
        Check.same("S5 20 birds", with("gulls 20").gulls(), 20);
        Check.same("S5 0 birds", with("gulls 20;gulls 0").gulls(), 0);
    }

    /** "amount 1 to 200" and the lodgers and floors that must exist */
    private static void rangesOfLodgerRules() {
        range(TWO + ";blanket #", 0, 1);
        range(TWO + ";move # 2", 0, 1);
        range(TWO + ";move 1 #", 0, 2);
        range(TWO + ";pay #", 0, 1);
        range("house 2 0 0;lodger a 0 0 0 1;lodger b 0 0 0 0;lodger c 0 0 0 1;lend # 1 1", 0, 2);
        range("house 2 0 0;lodger a 0 0 0 0;lodger b 0 0 0 1;lodger c 0 0 0 0;lend 1 # 1", 0, 2);
        range("house 2 0 0;lodger a 0 0 0 200;lodger b 0 0 0 0;lend 0 1 #", 1, 200);
        range("house 2 50 0;lodger a 0 0 0 0;lodger b 0 0 0 0;watches 8;readmit #", 0, 1);
        Check.textError(2, "house 2 0 0;roster 0 0 ^0");
        Check.textError(2, "house 2 0 0;exempt ^0 0");
        Check.textError(2, "house 2 0 0;blanket ^0");
        Check.textError(2, "house 2 0 0;lend ^0 0 1");
        Check.textError(2, "house 2 0 0;readmit ^0");
    }

    /** "count of "watches" 1 to 60, times 1 to 9" */
    private static void rangesOfCounts() {
        range(TWO + ";watches #", 1, 60);
        range(TWO + ";repeat #(tidy)", 1, 9);
        range(TWO + ";repeat 2(repeat #(tidy))", 1, 9);
        Check.same("S5 1 watch", with("watches 1").watchesPassed(), 1);
        Check.same("S5 60 watches", with("watches 60").watchesPassed(), 60);
    }

    /** "Lines take effect from left to right." */
    private static void leftToRight() {
        Check.same("S5 the later storm", with("storm 0 5;storm 0 6").storm(0), 6);
        Check.same("S5 the later gale", with("storm 0 5;gale 6").storm(0), 6);
        Check.same("S5 the later line of another word", with("gale 6;storm 0 5").storm(0), 5);
        Check.textError(2, "house 2 0 0;roster 0 0 ^0;lodger a 0 0 0 0");
        lineError(3, "clear 0 ^0;roster 0 0 0");
        Check.textError(4, "house 2 0 0;gale 9;watches 60^");
        WatchLodgers late = Check.loaded("house 2 0 0;meals 9;gulls 2;watches 5;lodger a 1 30 0 0;watches 1");
        Check.same("S5 watches before the first lodger are dark", late.darkWatches(), 5);
        Check.same("S5 days before the first lodger", late.meals(), 7);
        Check.same("S5 a lodger of day 1", late.watchesOf(0), 1);
        Check.same("S5 consistent", late.inconsistencies(), 0);
    }

    /** ""roster" sets the lodger of an entry and creates the entry if it does not exist; "clear" removes an entry." */
    private static void rosterCreates() {
        StringBuilder text = new StringBuilder("house 2 0 0;lodger a 0 0 0 0");
        for (int entry = 0; entry < 28; entry++) {
            text.append(";roster ").append(entry / 4).append(' ').append(entry % 4).append(" 0");
        }
        WatchLodgers full = Check.loaded(text.toString());
        Check.same("S5 a full roster", full.rosterSize(), 28);
        Check.same("S5 the last of a full roster", full.entryAt(27), 27);
        Check.same("S5 set again in a full roster", Check.loaded(text + ";roster 0 0 0").rosterSize(), 28);
        WatchLodgers lodgers = with("roster 0 0 0;roster 6 3 0;roster 0 0 1;clear 0 0");
        Check.same("S5 removed", lodgers.rosterSize(), 1);
        Check.same("S5 the other one stays", lodgers.rostered(6, 3), 0);
        Check.same("S5 the last one removed", with("roster 6 3 0;clear 6 3").rosterSize(), 0);
    }

    /** ""meals" adds meals to the pantry, and "gulls" sets the number of gulls. "blanket" gives a lodger one more
     * blanket." */
    private static void mealsAreAdded() {
        Check.same("S5 more meals than 100", with("meals 100;meals 100;meals 1").meals(), 201);
        Check.same("S5 8100 meals", with("repeat 9(repeat 9(meals 100))").meals(), 8100);
        Check.same("S5 gulls are set", with("gulls 20;gulls 20;gulls 3").gulls(), 3);
        Check.same("S5 one more blanket", with("blanket 0").blankets(0), 1);
        Check.same("S5 the third blanket", with("blanket 1;blanket 1").blankets(1), 3);
    }

    /** ""swap" exchanges the lodgers of two entries." */
    private static void swapOfTheEnds() {
        WatchLodgers lodgers = with("roster 6 3 0;roster 0 0 1;swap 0 0 6 3");
        Check.same("S5 the first weekday and watch", lodgers.rostered(0, 0), 0);
        Check.same("S5 the last weekday and watch", lodgers.rostered(6, 3), 1);
        Check.same("S5 the places stay", lodgers.entryAt(0), 27);
        Check.same("S5 two entries of one lodger", with("roster 6 3 0;roster 0 0 0;swap 0 0 6 3").entriesOf(0), 2);
        Check.same("S5 the same weekday", with("roster 6 3 0;roster 6 2 1;swap 6 3 6 2").rostered(6, 2), 0);
        Check.same("S5 the same watch", with("roster 6 3 0;roster 5 3 1;swap 6 3 5 3").rostered(5, 3), 0);
    }

    /** ""copy" sets, for each watch for which the first weekday has an entry, in the order of the watches, the lodger of
     * the entry for the second weekday and this watch, as "roster" does." */
    private static void copyOfEachWatch() {
        WatchLodgers full = with("roster 0 3 1;roster 0 2 0;roster 0 1 1;roster 0 0 0;copy 0 6");
        for (int watch = 0; watch < 4; watch++) {
            Check.same("S5 in the order of the watches", full.entryAt(4 + watch), 24 + watch);
            Check.same("S5 each watch", full.rostered(6, watch), watch % 2);
            Check.same("S5 the first weekday stays", full.rostered(0, watch), watch % 2);
        }
        WatchLodgers some = with("roster 6 1 1;roster 6 2 1;roster 0 2 0;roster 0 3 0;copy 6 0");
        Check.same("S5 no entry to copy, none before", some.rostered(0, 0), WatchLodgers.NONE);
        Check.same("S5 a new entry", some.rostered(0, 1), 1);
        Check.same("S5 a replaced lodger", some.rostered(0, 2), 1);
        Check.same("S5 no entry to copy, one before", some.rostered(0, 3), 0);
        Check.same("S5 the new entry is the last", some.entryAt(4), 1);
        Check.same("S5 nothing to copy", with("roster 0 0 1;copy 1 0").rosterSize(), 1);
    }

    /** ""release" removes an exemption. "tidy" removes all entries whose lodger is exempt from their watch." */
    private static void releaseAndTidy() {
        Check.same("S5 the only exemption", with("exempt 0 3;release 0 3").exemptionCount(), 0);
        Check.same("S5 others stay", with("exempt 0 3;exempt 1 3;exempt 0 2;release 0 3").exemptionCount(), 2);
        StringBuilder text = new StringBuilder("house 2 0 0;lodger a 0 0 0 0");
        for (int entry = 0; entry < 28; entry++) {
            text.append(";roster ").append(entry / 4).append(' ').append(entry % 4).append(" 0");
        }
        WatchLodgers most = Check.loaded(text + ";exempt 0 0;tidy");
        Check.same("S5 one watch of each weekday", most.rosterSize(), 21);
        Check.same("S5 the first that stays", most.entryAt(0), 1);
        Check.same("S5 the last that stays", most.entryAt(20), 27);
        Check.same("S5 all", Check.loaded(text + ";exempt 0 0;exempt 0 1;exempt 0 2;exempt 0 3;tidy").rosterSize(), 0);
        Check.same("S5 none", Check.loaded(text + ";tidy").rosterSize(), 28);
    }

    /** "the one with the least greater number or, if there is none, with the smallest number" */
    private static void rotateWrapsAround() {
        String eight = "house 2 50 0;lodger a 0 0 0 0;lodger b 0 0 0 200;lodger c 0 0 0 0;lodger d 0 0 0 200;"
                + "lodger e 0 0 0 0;lodger f 0 0 0 0;lodger g 0 0 0 200;lodger h 0 0 0 0;watches 8";
        WatchLodgers lodgers = Check.loaded(eight + ";roster 0 0 1;roster 0 1 3;roster 0 2 6;rotate");
        Check.same("S5 the least greater number", lodgers.rostered(0, 0), 3);
        Check.same("S5 the least greater number who is present", lodgers.rostered(0, 1), 6);
        Check.same("S5 the smallest number who is present", lodgers.rostered(0, 2), 1);
        StringBuilder lines = new StringBuilder("house 2 0 0" + HouseBoundaries.lodgers(8));
        for (int lodger = 0; lodger < 8; lodger++) {
            lines.append(";roster ").append(lodger / 4 + 5).append(' ').append(lodger % 4).append(' ').append(lodger);
        }
        WatchLodgers all = Check.loaded(lines + ";rotate");
        for (int lodger = 0; lodger < 8; lodger++) {
            Check.same("S5 next of " + lodger, all.rostered(lodger / 4 + 5, lodger % 4), (lodger + 1) % 8);
            Check.same("S5 the places stay", all.entryAt(lodger), lodger + 20);
        }
        Check.same("S5 eight times", Check.loaded(lines + ";repeat 8(rotate)").rostered(6, 3), 7);
        WatchLodgers alone = Check.loaded(GONE + ";roster 0 0 1;rotate");
        Check.same("S5 the only one who is present", alone.rostered(0, 0), 1);
        Check.same("S5 no entries", with("rotate").rosterSize(), 0);
    }

    /** ""gale" sets the strength for all weekdays." */
    private static void galeForAll() {
        WatchLodgers lodgers = with("storm 3 2;gale 9");
        WatchLodgers calm = with("gale 9;gale 0");
        for (int weekday = 0; weekday < 7; weekday++) {
            Check.same("S5 gale 9", lodgers.storm(weekday), 9);
            Check.same("S5 gale 0", calm.storm(weekday), 0);
        }
    }

    /** ""feast" does what the step "Meals" of section 4 does." */
    private static void feastIsTheStep() {
        WatchLodgers lodgers = Check.loaded("house 2 9 0;lodger a 0 25 0 9;lodger b 0 3 0 0;lodger c 0 4 0 0;gulls 5;"
                + "gale 9;meals 1;feast");
        Check.same("S5 not above 30", lodgers.energy(0), 30);
        Check.same("S5 not below 0", lodgers.energy(1), 0);
        Check.same("S5 to 0", lodgers.energy(2), 0);
        Check.same("S5 meals", lodgers.meals(), 0);
        Check.same("S5 no gulls", lodgers.gulls(), 5);
        Check.same("S5 no rent", lodgers.coins(0), 9);
        Check.same("S5 no watch", lodgers.watchesPassed(), 0);
        Check.same("S5 no sick days", Check.loaded("house 2 0 0;lodger a 0 0 0 0;feast;meals 1;feast").obstacle(0), 0);
        Check.same("S5 the gone do not eat", Check.loaded(GONE + ";meals 9;feast").meals(), 8);
        Check.same("S5 a feast of none", Check.loaded("house 2 0 0;meals 1;feast;lodger a 0 0 0 0").meals(), 1);
    }

    /** ""lend" moves coins from the first lodger to the second one; nothing is owed." */
    private static void lendAll() {
        WatchLodgers all = Check.loaded("house 2 0 0;lodger a 0 0 0 200;lodger b 0 0 0 200;lend 0 1 200");
        Check.same("S5 all coins", all.coins(0), 0);
        Check.same("S5 more than 200 coins", all.coins(1), 400);
        Check.same("S5 nothing is owed", all.debt(1), 0);
        Check.same("S5 one coin", with("lend 0 1 1").coins(0), 8);
        Check.same("S5 consistent", all.inconsistencies(), 0);
    }

    /** ""pay" lets a lodger pay as much of the debt as possible from the coins to the fund." */
    private static void payAsMuchAsPossible() {
        // a owes 18 after a day; b lends coins
        String house = "house 2 18 0;lodger a 0 0 0 0;lodger b 0 0 0 200;watches 4";
        int[] lent = {1, 17, 18, 19, 100};
        for (int coins : lent) {
            WatchLodgers lodgers = Check.loaded(house + ";lend 1 0 " + coins + ";pay 0");
            Check.same("S5 coins left of " + coins, lodgers.coins(0), Math.max(0, coins - 18));
            Check.same("S5 debt left with " + coins, lodgers.debt(0), Math.max(0, 18 - coins));
            Check.same("S5 to the fund", lodgers.fund(), 18 + Math.min(18, coins));
        }
        WatchLodgers nothing = Check.loaded(house + ";pay 0;pay 1");
        Check.same("S5 no coins", nothing.debt(0), 18);
        Check.same("S5 no debt", nothing.coins(1), 182);
    }

    /** ""readmit" lets a lodger who is gone be present again, with a debt of 0." */
    private static void readmit() {
        WatchLodgers lodgers = Check.loaded(GONE + ";readmit 0");
        Check.that("S5 present again", lodgers.isPresent(0));
        Check.same("S5 a debt of 0", lodgers.debt(0), 0);
        Check.same("S5 owes rent again", lodgers.rentToday(0), 50);
        lodgers.passWatches(4);
        Check.that("S5 a debt of 50 again", lodgers.isPresent(0));
        lodgers.passWatches(4);
        Check.that("S5 gone again", !lodgers.isPresent(0));
        Check.same("S5 readmitted twice", Check.loaded(GONE + ";readmit 0;watches 8;readmit 0").presentCount(), 2);
    }

    /** ""repeat" lets the lines in the brackets take effect several times, one time after the other." */
    private static void repeatTimes() {
        for (int times = 1; times <= 9; times++) {
            Check.same("S5 times " + times, with("repeat " + times + "(meals 1)").meals(), times);
            Check.same("S5 " + times + " times in 9", with("repeat 9(repeat " + times + "(meals 1))").meals(), 9 * times);
            Check.same("S5 9 times in " + times, with("repeat " + times + "(repeat 9(meals 1))").meals(), 9 * times);
        }
        Check.same("S5 one time after the other", with("repeat 2(storm 0 1;storm 0 2)").storm(0), 2);
        Check.same("S5 several lines", with("repeat 3(meals 1;meals 10;meals 100)").meals(), 333);
        Check.same("S5 a line behind", with("repeat 3(meals 1);meals 10").meals(), 13);
    }

    /** "A "repeat" can stand inside another one, but not inside two others." */
    private static void repeatDepth() {
        Check.same("S5 inside another one, twice", with("repeat 2(repeat 2(meals 1);repeat 3(meals 1))").meals(), 10);
        Check.same("S5 behind another one", with("repeat 2(meals 1);repeat 2(repeat 2(meals 1));repeat 2(meals 1)")
                .meals(), 8);
        lineError(4, "repeat 1(repeat 1(^repeat 1(tidy)))");
        lineError(4, "repeat 1(tidy;repeat 1(tidy;^repeat 1(tidy)))");
        lineError(1, "repeat 1(repeat 1(tidy^");
        WatchLodgers lodgers = new WatchLodgers();
        Check.noArgument("S5 two repeats that do not end", () -> Check.load(lodgers, TWO + ";repeat 1(repeat 1(tidy"));
        Check.noArgument("S5 the end of a repeat of another text", () -> Check.load(lodgers, TWO + ")"));
        Check.same("S5 not allowed at this place", lodgers.errorPosition(), TWO.length());
        Check.noArgument("S5 two repeats that do not end", () -> Check.load(lodgers, TWO + ";repeat 1(repeat 1(tidy"));
        Check.same("S5 repeats of another text do not count", Check.load(lodgers, TWO + ";repeat 1(repeat 1(tidy))"), 2);
    }

    /** "The lines in the brackets are parsed anew each time, so an error may be found only in a later time; it is
     * reported at its token all the same." */
    private static void parsedAnewEachTime() {
        lineError(3, "repeat 2(lodger ^c 0 0 0 0)");
        lineError(3, "repeat 4(blanket ^0)");
        lineError(3, "repeat 3(repeat 2(blanket ^0))");
        Check.same("S5 three times are right", with("repeat 3(blanket 0)").blankets(0), 3);
        lineError(4, "repeat 9(repeat 2(watches ^60))");
        lineError(3, "roster 0 0 0;repeat 2(clear 0 ^0;tidy)");
        lineError(1, "roster 0 0 0;repeat 2(clear 0 0;^zap)");
        lineError(1, "repeat 2(exempt 0 0;release 0 0^");
    }

    /** "Parsing stops at the first invalid token from the left." */
    private static void firstInvalidToken() {
        lineError(2, "meals ^0;zap;lodger a 0 0 0 0");
        lineError(3, "lodger ^a 99 99 99 999");
        lineError(2, "roster ^7 9 9");
        lineError(2, "roster 6 ^4 9");
        lineError(1, "repeat 2 ^meals 0");
        WatchLodgers lodgers = new WatchLodgers();
        Check.noArgument("S5 refused", () -> Check.load(lodgers, TWO + ";meals 0;meals 1000"));
        Check.same("S5 the first of two", lodgers.errorPosition(), TWO.length() + 7);
    }

    /** "If several error codes apply to this token, the smallest one is reported." */
    private static void smallestCode() {
        Check.textError(1, "house 2 0 0;^");
        Check.textError(1, "house 2 0 0;repeat 1(tidy^");
        Check.textError(1, "house 2 0 0;lodger ^abcdefgh 0 0 0 0");
        lineError(2, "lend 0 1 ^201");
        lineError(2, "lend 1 0 ^0");
        lineError(2, "lend 0 ^2 1");
        String thousand = "repeat 4(repeat 4(watches 60));watches 40;";
        lineError(2, thousand + "watches ^61");
        lineError(4, thousand + "watches ^1");
        lineError(1, thousand + "watches ^1000");
        lineError(2, "roster 0 0 0;swap 0 0 0 ^4");
        lineError(3, "roster 0 0 0;swap 0 0 0 ^0");
        lineError(1, "repeat 1(repeat 1(^repeats 1(tidy)))");
    }

    /** "the number of parsed bytes if the text ends too early" */
    private static void positionOfTheEnd() {
        Check.textError(1, "^");
        Check.textError(1, " ^");
        Check.textError(1, "house^");
        Check.textError(1, "house ^");
        Check.textError(1, "house 2 0 0;lodger a 0 0 0    ^");
        Check.textError(4, "house 2 0 0    ^");
        WatchLodgers lodgers = new WatchLodgers();
        Check.feed(lodgers, TWO);
        Check.noArgument("S5 parsed bytes, not all of the buffer", () -> lodgers.load(12));
        Check.same("S5 the number of parsed bytes", lodgers.errorPosition(), 12);
        Check.same("S5 an incomplete text", lodgers.parseError(), 1);
        Check.feed(lodgers, TWO);
        Check.noArgument("S5 the whole buffer, without a word", () -> lodgers.load(3));
        Check.same("S5 the first byte of a word cut short", lodgers.errorPosition(), 0);
        StringBuilder full = new StringBuilder();
        for (int at = 0; at < 600; at++) {
            full.append(' ');
        }
        Check.textError(1, full + "^");
    }

    /** "1: .. a token that the grammar does not allow at this place, or an incomplete text": each token of each line */
    private static void code1AtEachToken() {
        String[] lines = {"lodger c 0 1 0 1", "roster 0 1 1", "clear 0 0", "exempt 0 1", "storm 0 1", "meals 1", "gulls 1",
            "blanket 0", "swap 0 0 1 1", "copy 0 1", "release 1 0", "tidy", "rotate", "gale 1", "feast", "move 0 1",
            "lend 0 1 1", "pay 0", "readmit 0", "watches 1", "repeat 2 ( tidy ; rotate )"};
        String before = TWO + ";roster 0 0 0;roster 1 1 1;exempt 1 0;";
        for (String line : lines) {
            String[] tokens = line.split(" ");
            String rest = line.substring(tokens[0].length());
            int end = tokens[0].length() - 1;
            Check.textError(1, before + "^x" + tokens[0].substring(1) + rest);
            Check.textError(1, before + "^" + tokens[0].substring(0, end) + "x" + rest);
            Check.textError(1, before + "^" + tokens[0].substring(0, end) + rest);
            Check.textError(1, before + "^" + tokens[0] + "s" + rest);
            StringBuilder taken = new StringBuilder(before);
            for (String token : tokens) {
                String wrong = token.matches("[0-9]+") ? "x" : token.equals("c") ? "1" : "zap";
                Check.textError(1, taken + "^" + wrong);
                Check.textError(1, taken + "^#");
                Check.textError(1, taken + "^");
                taken.append(token).append(' ');
            }
            if (!line.startsWith("readmit") && !line.startsWith("repeat")) {
                Check.same("S5 '" + line + "'", Check.loaded(taken.toString()).parseError(), 0);
                Check.textError(1, taken + "^1");
                Check.textError(1, taken + "^x");
                Check.textError(1, taken + "^(");
                Check.textError(1, taken + "^)");
                Check.textError(1, taken + ";^;");
            }
        }
        for (int token = 0; token < 4; token++) {
            String[] taken = {"", "house ", "house 2 ", "house 2 0 "};
            Check.textError(1, taken[token] + "^zap");
            Check.textError(1, taken[token] + "^;");
            Check.textError(1, taken[token] + "^");
        }
        Check.textError(1, "^lodger a 0 0 0 0");
        Check.textError(1, TWO + ";^house 2 0 0");
    }

    /** "2: a number that is out of range, or the number of a floor or lodger that does not exist" */
    private static void code2() {
        lineError(2, "move 0 ^3");
        lineError(2, "lodger c ^3 0 0 0");
        lineError(2, "pay ^2");
        lineError(2, "exempt ^2 0");
        lineError(2, "release ^2 0");
        lineError(2, "move ^2 0");
        lineError(2, "blanket ^2");
        lineError(2, "lend ^2 0 1");
        lineError(2, "lend 0 ^2 1");
        lineError(2, "roster 0 0 ^2");
        lineError(2, "readmit ^2");
    }

    /** "3: a name of 7 letters, or a name that another lodger has" */
    private static void code3Names() {
        lineError(3, "lodger ^watches 0 0 0 0");
        lineError(3, "lodger ^b 0 0 0 0");
        Check.textError(3, GONE + ";lodger ^a 0 0 0 0");
        Check.same("S5 a word of the grammar as a name", with("lodger repeat 0 0 0 0").lodgerCount(), 3);
        Check.same("S5 6 letters", with("lodger abcdef 0 0 0 0").lodgerCount(), 3);
    }

    /** "the lodger of "roster", "exempt", "release", "move" or "pay" who is gone, and the lodger of "blanket" who is gone
     * or has 3 blankets" */
    private static void code3Gone() {
        Check.textError(3, GONE + ";roster 0 0 ^0");
        Check.textError(3, GONE + ";exempt ^0 0");
        Check.textError(3, GONE + ";release ^0 0");
        Check.textError(3, GONE + ";move ^0 1");
        Check.textError(3, GONE + ";pay ^0");
        Check.textError(3, GONE + ";blanket ^0");
        Check.textError(3, "house 2 0 0;lodger a 0 0 3 0;blanket ^0");
        Check.same("S5 2 blankets", Check.loaded("house 2 0 0;lodger a 0 0 2 0;blanket 0").blankets(0), 3);
        WatchLodgers lodgers = Check.loaded(GONE + ";roster 0 0 1;exempt 1 0;release 1 0;move 1 0;pay 1;blanket 1;"
                + "lend 1 0 9;lend 0 1 8");
        Check.same("S5 coins of one who is gone", lodgers.coins(0), 1);
    }

    /** "the watch of "clear" or "swap" if there is no entry for the weekday before it and this watch; the second watch of
     * "swap" if both entries are the same" */
    private static void code3Entries() {
        String entry = "roster 6 3 0;";
        lineError(3, entry + "clear 6 ^2");
        lineError(3, entry + "clear 5 ^3");
        lineError(3, entry + "clear 6 3;clear 6 ^3");
        lineError(3, entry + "swap 6 ^2 6 3");
        lineError(3, entry + "swap 5 ^3 6 3");
        lineError(3, entry + "swap 6 3 6 ^2");
        lineError(3, entry + "swap 6 3 5 ^3");
        lineError(3, entry + "swap 6 3 6 ^3");
        lineError(3, "swap 0 ^0 0 0");
    }

    /** "the watch of "exempt" if there is this exemption, and that of "release" if there is not" */
    private static void code3Exemptions() {
        lineError(3, "exempt 0 3;exempt 0 ^3");
        lineError(3, "exempt 0 3;release 0 3;release 0 ^3");
        lineError(3, "exempt 0 3;release 0 ^2");
        lineError(3, "exempt 0 3;release 1 ^3");
        Check.same("S5 exempt, released, exempt", with("exempt 0 3;release 0 3;exempt 0 3").exemptionCount(), 1);
        Check.same("S5 another watch and another lodger", with("exempt 0 3;exempt 0 2;exempt 1 3").exemptionCount(), 3);
    }

    /** "the second weekday of "copy" that is the first one; the floor of "move" that the lodger has; the second lodger of
     * "lend" who is the first one, and the amount of "lend" that is greater than the coins of the first lodger; the
     * lodger of "readmit" who is present" */
    private static void code3Others() {
        for (int weekday = 0; weekday < 7; weekday++) {
            lineError(3, "copy " + weekday + " ^" + weekday);
        }
        lineError(3, "move 0 ^0");
        lineError(3, "move 0 2;move 0 ^2");
        Check.same("S5 the floor of another lodger", with("move 0 1").floorOf(0), 1);
        lineError(3, "lend 0 ^0 1");
        lineError(3, "lend 1 ^1 200");
        lineError(3, "lend 0 1 ^10");
        Check.same("S5 an amount that is just there", with("lend 0 1 9").coins(1), 9);
        lineError(3, "lend 0 1 9;lend 0 1 ^1");
        lineError(3, "readmit ^0");
        Check.textError(3, GONE + ";readmit ^1");
        Check.textError(3, GONE + ";readmit 0;readmit ^0");
    }

    /** "4: the word "lodger" of a ninth lodger" */
    private static void code4Lodgers() {
        String eight = "house 2 50 0" + HouseBoundaries.lodgers(8);
        Check.textError(4, eight + ";^lodger i 0 0 0 0");
        Check.textError(4, eight + ";^lodger a 9 99 9 999");
        Check.textError(4, eight + ";^lodger");
        Check.textError(4, eight + ";watches 8;^lodger i 0 0 0 0");
        Check.textError(4, "house 2 50 0" + HouseBoundaries.lodgers(7) + ";repeat 2(^lodger i 0 0 0 0)");
    }

    /** "the word "repeat" inside two other repeats" */
    private static void code4Repeats() {
        lineError(4, "repeat 9(repeat 9(^repeat 9(tidy)))");
        lineError(4, "repeat 1(repeat 1(^repeat 0(tidy)))");
        lineError(4, "repeat 1(repeat 1(^repeat");
        lineError(4, "repeat 1(repeat 1(tidy);repeat 1(tidy;^repeat 1(tidy)))");
    }

    /** "the count of "watches" with which the text would simulate more than 1000 watches" */
    private static void code4Watches() {
        String most = "repeat 4(repeat 4(watches 60));";
        Check.same("S5 999 watches", with(most + "watches 39").watchesPassed(), 999);
        Check.same("S5 1000 watches", with(most + "watches 40").watchesPassed(), 1000);
        lineError(4, most + "watches ^41");
        lineError(4, most + "watches 40;watches ^1");
        lineError(4, most + "watches ^60");
        lineError(4, "repeat 9(repeat 9(watches ^13))");
        Check.same("S5 81 times 12", with("repeat 9(repeat 9(watches 12))").watchesPassed(), 972);
        WatchLodgers again = with(most + "watches 40");
        Check.load(again, TWO + ";" + most + "watches 40");
        Check.same("S5 each text has its 1000", again.watchesPassed(), 1000);
        again.passWatches(60);
        Check.same("S5 only texts have a limit", again.watchesPassed(), 1060);
        WatchLodgers refused = new WatchLodgers();
        Check.noArgument("S5 refused", () -> Check.load(refused, TWO + ";" + most + "watches 41"));
        Check.load(refused, TWO + ";" + most + "watches 40");
        Check.same("S5 1000 after a text that was refused", refused.watchesPassed(), 1000);
    }

    /** "the end of a text without a lodger" */
    private static void code4End() {
        Check.textError(4, "house 2 0 0^");
        Check.textError(4, "house 2 0 0;tidy^");
        Check.textError(4, "house 2 0 0;repeat 1(tidy)^");
        Check.textError(4, "house 2 0 0;repeat 9(repeat 9(tidy))  ^");
        Check.same("S5 a lodger at the end", Check.loaded("house 2 0 0;gale 1;lodger a 0 0 0 0").lodgerCount(), 1);
    }
}
