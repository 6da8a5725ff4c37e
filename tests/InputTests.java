/** Promises 1 to 6: the buffer, load() and what it tells of an error. */
final class InputTests {
    private static final String TEXT = "house 3 6 2;lodger ann 0 10 1 20";

    private InputTests() {
    }

    static void run() {
        newObject();
        appending();
        bytesInOrder();
        loading();
        lengthOutOfBounds();
        textWithError();
        loadForgetsTheHouseBefore();
        loadForgetsTheTextBefore();
        exampleOfReadme();
    }

    /** The lines that README.md shows, with what it says of them. */
    private static void exampleOfReadme() {
        WatchLodgers lodgers = new WatchLodgers();
        lodgers.append(0x686f7573, 0x65203220, 0x3020303b, 0x6c6f6467, 0x65722061);
        lodgers.append(0x20312033, 0x30203020, 0x39202020, 0x20202020, 0x20202020);
        Check.same("README load", lodgers.load(40), 1);
        Check.same("README nextKeeper", lodgers.nextKeeper(), 0);
        Check.same("README passWatches", lodgers.passWatches(4), 2);
        Check.same("README a day", lodgers.day(), 1);
        Check.same("README undo", lodgers.undo(), 0);
        Check.same("README taken back", lodgers.watchesPassed(), 0);
    }

    private static void newObject() {
        WatchLodgers lodgers = new WatchLodgers();
        Check.same("P1 bufferLength", lodgers.bufferLength(), 0);
        Check.same("P1 undoable", lodgers.undoable(), 0);
        Check.same("P4 before load", lodgers.parseError(), 0);
        Check.same("P5 before load", lodgers.errorPosition(), WatchLodgers.NONE);
        Check.same("NONE", WatchLodgers.NONE, -1);
        Check.noState("P1 floors", lodgers::floors);
        Check.noIndex("P1 textByte", () -> lodgers.textByte(0));
    }

    private static void appending() {
        WatchLodgers lodgers = new WatchLodgers();
        for (int call = 1; call <= 30; call++) {
            Check.same("P2 append " + call, lodgers.append(0, 0, 0, 0, 0), 20 * call);
        }
        Check.same("P6 full", lodgers.bufferLength(), 600);
        Check.same("P2 append to a full buffer", lodgers.append(0, 0, 0, 0, 0), WatchLodgers.NONE);
        Check.same("P6 still full", lodgers.bufferLength(), 600);
    }

    private static void bytesInOrder() {
        // "hous" "e 2 " "0 0;" "lodg" "er q", then a name of the next call's bytes
        WatchLodgers lodgers = new WatchLodgers();
        lodgers.append(0x686f7573, 0x65203220, 0x3020303b, 0x6c6f6467, 0x65722071);
        lodgers.append(0x72737475, 0x76203120, 0x33302033, 0x20323030, 0x20202020);
        Check.same("P2 bytes", lodgers.load(40), 1);
        Check.same("P2 letter 0", lodgers.lodgerLetter(0, 0), 'q');
        Check.same("P2 letter 5", lodgers.lodgerLetter(0, 5), 'v');
        Check.same("P2 coins", lodgers.coins(0), 200);

        WatchLodgers negative = new WatchLodgers();
        negative.append(0x686f7573, 0x6580ffff, -1, -1, -1);
        Check.noArgument("P2 bytes above 127", () -> negative.load(20));
        Check.same("P2 byte above 127 starts no token", negative.parseError(), 1);
        Check.same("P2 its position", negative.errorPosition(), 5);
    }

    private static void loading() {
        WatchLodgers lodgers = new WatchLodgers();
        Check.same("P3 load", Check.load(lodgers, TEXT + ";lodger bo 1 1 0 0"), 2);
        Check.same("P3 buffer empty", lodgers.bufferLength(), 0);
        Check.same("P4 success", lodgers.parseError(), 0);
        Check.same("P5 success", lodgers.errorPosition(), WatchLodgers.NONE);
        Check.feed(lodgers, TEXT + ";lodger bo 1 1 0 0");
        Check.same("P3 only the first bytes", lodgers.load(TEXT.length()), 1);
        Check.same("P3 coins of the shorter text", lodgers.coins(0), 20);
        Check.feed(lodgers, TEXT);
        Check.same("P3 a number cut short", lodgers.load(TEXT.length() - 1), 1);
        Check.same("P3 coins cut short", lodgers.coins(0), 2);
        Check.same("P3 buffer empty with bytes left over", lodgers.bufferLength(), 0);
    }

    private static void lengthOutOfBounds() {
        WatchLodgers lodgers = new WatchLodgers();
        Check.noIndex("P3 length 1 of 0", () -> lodgers.load(1));
        Check.noArgument("P3 empty text", () -> lodgers.load(0));
        Check.same("P4 empty text", lodgers.parseError(), 1);
        Check.same("P5 empty text", lodgers.errorPosition(), 0);
        Check.feed(lodgers, "house 3 6 2;lodger abcdefg 0 0 0 0");
        Check.noArgument("P3 long name", () -> lodgers.load(34));
        Check.feed(lodgers, TEXT);
        Check.noIndex("P3 length -1", () -> lodgers.load(-1));
        Check.noIndex("P3 length 41 of 40", () -> lodgers.load(41));
        Check.noIndex("P3 least length", () -> lodgers.load(Integer.MIN_VALUE));
        Check.noIndex("P3 greatest length", () -> lodgers.load(Integer.MAX_VALUE));
        Check.same("P3 buffer remains", lodgers.bufferLength(), 40);
        Check.same("P4 remains", lodgers.parseError(), 3);
        Check.same("P5 remains", lodgers.errorPosition(), 19);
        Check.same("P3 whole buffer", lodgers.load(40), 1);
    }

    private static void textWithError() {
        WatchLodgers lodgers = Check.loaded(TEXT);
        lodgers.save(1);
        lodgers.bringMeals(3);
        Check.noArgument("P3 error", () -> Check.load(lodgers, "house 9 9 9;lodger x 0 1 1 1;watches 61"));
        Check.same("P3 buffer empty after an error", lodgers.bufferLength(), 0);
        Check.same("P4 error", lodgers.parseError(), 2);
        Check.same("P5 error", lodgers.errorPosition(), 37);
        Check.same("P3 house remains", lodgers.floors(), 3);
        Check.same("P3 lodger remains", lodgers.lodgerLetter(0, 0), 'a');
        Check.same("P3 meals remain", lodgers.meals(), 3);
        Check.same("P3 change remains", lodgers.undoable(), 1);
        Check.same("P3 saved state remains", lodgers.restore(1), 0);
        Check.same("P3 saved meals", lodgers.meals(), 0);
    }

    private static void loadForgetsTheHouseBefore() {
        WatchLodgers lodgers = Check.loaded("house 9 50 20;lodger a 0 30 3 200;lodger b 1 5 0 9;roster 0 0 0;exempt 0 3;"
                + "gale 7;meals 50;gulls 9;watches 60");
        lodgers.setStorm(1, 1);
        lodgers.save(0);
        Check.load(lodgers, "house 2 1 1;lodger c 0 30 0 0");
        Check.same("P3 no undo", lodgers.undoable(), 0);
        Check.noState("P3 nothing to undo", lodgers::undo);
        Check.noState("P3 no state saved", () -> lodgers.restore(0));
        int left = lodgers.watchesPassed() + lodgers.meals() + lodgers.gulls() + lodgers.fund() + lodgers.storm(3)
                + lodgers.darkWatches() + lodgers.substitutions() + lodgers.rosterSize() + lodgers.exemptionCount()
                + lodgers.coins(0) + lodgers.debt(0) + lodgers.watchesOf(0) + lodgers.watchesToday(0)
                + lodgers.inconsistencies();
        Check.same("P3 nothing left of the house before", left, 0);
        Check.same("P3 no keeper before", lodgers.previousKeeper(), WatchLodgers.NONE);
        Check.same("P3 entry gone", lodgers.rostered(0, 0), WatchLodgers.NONE);
        Check.that("P3 present", lodgers.isPresent(0));
    }

    /** A refused text leaves nothing to the next one, wherever it stopped. */
    private static void loadForgetsTheTextBefore() {
        WatchLodgers lodgers = new WatchLodgers();
        Check.noArgument("P3 refused", () -> Check.load(lodgers, "house 9 50 20;lodger a 0 30 3 200;roster 0 0 0;"
                + "gale 7;watches 7;exempt 0 3;meals 50;gulls 9;repeat 3(repeat 3(watches 1;zap"));
        Check.same("P4 refused", lodgers.parseError(), 1);
        Check.load(lodgers, "house 2 1 1;lodger c 0 30 0 0");
        Check.same("P4 a success after an error", lodgers.parseError(), 0);
        Check.same("P5 a success after an error", lodgers.errorPosition(), WatchLodgers.NONE);
        int left = lodgers.watchesPassed() + lodgers.meals() + lodgers.gulls() + lodgers.fund() + lodgers.storm(3)
                + lodgers.darkWatches() + lodgers.substitutions() + lodgers.rosterSize() + lodgers.exemptionCount()
                + lodgers.coins(0) + lodgers.debt(0) + lodgers.watchesOf(0) + lodgers.watchesToday(0)
                + lodgers.inconsistencies() + lodgers.undoable();
        Check.same("P3 nothing left of the text before", left, 0);
        Check.same("P3 no keeper before", lodgers.previousKeeper(), WatchLodgers.NONE);
        Check.same("P3 no obstacle", lodgers.obstacle(0), 0);
        Check.noArgument("P3 refused", () -> Check.load(lodgers, "house 2 1 1;lodger c 0 30 0 0;repeat 3(tidy"));
        Check.noArgument("P3 a bracket of another text", () -> Check.load(lodgers, "house 2 1 1;lodger c 0 30 0 0)"));
        Check.same("P5 a bracket of another text", lodgers.errorPosition(), 29);
        Check.noArgument("P3 sick", () -> Check.load(lodgers, "house 2 50 0;lodger a 0 0 0 0;watches 8;zap"));
        Check.load(lodgers, "house 2 1 1;lodger c 0 30 0 0");
        Check.that("P3 present", lodgers.isPresent(0));
        Check.same("P3 not sick", lodgers.obstacle(0), 0);
    }
}
