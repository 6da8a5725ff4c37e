/** Promises 55 to 65: the changes, undo, save and restore. */
final class ChangeTests {
    private static final String TEXT = "house 3 6 2;lodger ann 0 10 1 20;lodger bob 2 5 3 3;roster 0 0 0;exempt 1 3;"
            + "storm 0 5;meals 3;gulls 1";
    private static final String GONE = "house 2 50 0;lodger a 1 0 0 0;lodger b 1 0 0 200;roster 3 3 0;watches 8";

    private ChangeTests() {
    }

    static void run() {
        beforeLoad();
        passWatches();
        assign();
        clear();
        setExempt();
        giveBlanket();
        bringMeals();
        setStorm();
        undo();
        undoOfEachChange();
        undoIsDepthEight();
        saveAndRestore();
        refusedCallsAreNoChanges();
    }

    private static void beforeLoad() {
        WatchLodgers lodgers = new WatchLodgers();
        Check.noState("P55", () -> lodgers.passWatches(0));
        Check.noState("P56", () -> lodgers.assign(7, 4, 9));
        Check.noState("P57", () -> lodgers.clear(7, 4));
        Check.noState("P58", () -> lodgers.setExempt(9, 4, true));
        Check.noState("P59", () -> lodgers.giveBlanket(9));
        Check.noState("P60", () -> lodgers.bringMeals(0));
        Check.noState("P61", () -> lodgers.setStorm(7, 10));
        Check.noState("P62", lodgers::undo);
        Check.same("P63", lodgers.undoable(), 0);
        Check.noState("P64", () -> lodgers.save(2));
        Check.noIndex("P65", () -> lodgers.restore(2));
        Check.noIndex("P65", () -> lodgers.restore(-1));
        Check.noState("P65", () -> lodgers.restore(1));
    }

    private static void passWatches() {
        WatchLodgers lodgers = Check.loaded(TEXT);
        Check.noArgument("P55 0", () -> lodgers.passWatches(0));
        Check.noArgument("P55 61", () -> lodgers.passWatches(61));
        Check.noArgument("P55 -1", () -> lodgers.passWatches(-1));
        Check.noArgument("P55 greatest", () -> lodgers.passWatches(Integer.MAX_VALUE));
        Check.same("P55 1", lodgers.passWatches(1), 0);
        int before = lodgers.darkWatches();
        int dark = lodgers.passWatches(60);
        Check.same("P55 60", lodgers.watchesPassed(), 61);
        Check.same("P55 the dark ones among them", before + dark, lodgers.darkWatches());
        Check.same("P55 only those among them", lodgers.passWatches(60) + before + dark, lodgers.darkWatches());
        Check.same("P55 is a change", lodgers.undoable(), 3);
        int passed = 121;
        for (int call = 0; call < 100; call++) {
            lodgers.passWatches(60);
            passed += 60;
        }
        Check.same("P7 more than a text may simulate", lodgers.watchesPassed(), passed);
        Check.same("P20 after long", lodgers.inconsistencies(), 0);
    }

    private static void assign() {
        WatchLodgers lodgers = Check.loaded(TEXT);
        Check.same("P56 a new entry", lodgers.assign(6, 3, 1), WatchLodgers.NONE);
        Check.same("P56 replaced", lodgers.assign(0, 0, 1), 0);
        Check.same("P56 the same", lodgers.assign(0, 0, 1), 1);
        Check.same("P56 entries", lodgers.rosterSize(), 2);
        Check.same("P56 the place stays", lodgers.entryAt(0), 0);
        Check.same("P56 a new entry is the last", lodgers.entryAt(1), 27);
        Check.same("P56 counts even if nothing differs", lodgers.undoable(), 3);
        for (int entry = 0; entry < 28; entry++) {
            lodgers.assign(entry / 4, entry % 4, 0);
        }
        Check.same("P56 a full roster", lodgers.rosterSize(), 28);
        Check.same("P56 entries of ann", lodgers.entriesOf(0), 28);
        Check.noIndex("P56 weekday", () -> lodgers.assign(7, 0, 0));
        Check.noIndex("P56 weekday", () -> lodgers.assign(-1, 0, 0));
        Check.noIndex("P56 watch", () -> lodgers.assign(0, 4, 0));
        Check.noIndex("P56 watch", () -> lodgers.assign(0, -1, 0));
        Check.noIndex("P56 lodger", () -> lodgers.assign(0, 0, 2));
        Check.noIndex("P56 lodger", () -> lodgers.assign(0, 0, -1));
        WatchLodgers gone = Check.loaded(GONE);
        Check.noArgument("P56 gone", () -> gone.assign(0, 0, 0));
        Check.noIndex("P56 gone, with a wrong watch", () -> gone.assign(0, 4, 0));
        Check.same("P56 present", gone.assign(0, 0, 1), WatchLodgers.NONE);
    }

    private static void clear() {
        WatchLodgers lodgers = Check.loaded(TEXT + ";roster 4 2 1;roster 3 2 0");
        Check.same("P57 the lodger", lodgers.clear(4, 2), 1);
        Check.same("P57 removed", lodgers.rostered(4, 2), WatchLodgers.NONE);
        Check.same("P57 entries", lodgers.rosterSize(), 2);
        Check.same("P57 the order stays", lodgers.entryAt(1), 14);
        Check.noArgument("P57 no entry", () -> lodgers.clear(4, 2));
        Check.noIndex("P57 weekday", () -> lodgers.clear(7, 0));
        Check.noIndex("P57 weekday", () -> lodgers.clear(-1, 0));
        Check.noIndex("P57 watch", () -> lodgers.clear(0, 4));
        Check.noIndex("P57 watch", () -> lodgers.clear(0, -1));
        lodgers.assign(4, 2, 0);
        Check.same("P57 a new entry afterwards is the last", lodgers.entryAt(2), 18);
    }

    private static void setExempt() {
        WatchLodgers lodgers = Check.loaded(TEXT);
        Check.that("P58 not before", !lodgers.setExempt(0, 2, true));
        Check.that("P58 added", lodgers.isExempt(0, 2));
        Check.that("P58 before", lodgers.setExempt(0, 2, true));
        Check.same("P58 counts even if nothing differs", lodgers.undoable(), 2);
        Check.that("P58 before", lodgers.setExempt(0, 2, false));
        Check.that("P58 removed", !lodgers.isExempt(0, 2));
        Check.that("P58 not before", !lodgers.setExempt(0, 2, false));
        Check.same("P58 the others stay", lodgers.exemptionCount(), 1);
        Check.noIndex("P58 lodger", () -> lodgers.setExempt(2, 0, true));
        Check.noIndex("P58 lodger", () -> lodgers.setExempt(-1, 0, true));
        Check.noIndex("P58 watch", () -> lodgers.setExempt(0, 4, true));
        Check.noIndex("P58 watch", () -> lodgers.setExempt(0, -1, true));
        WatchLodgers gone = Check.loaded(GONE);
        Check.noArgument("P58 gone", () -> gone.setExempt(0, 0, true));
        Check.noArgument("P58 gone", () -> gone.setExempt(0, 0, false));
        Check.noIndex("P58 gone, with a wrong watch", () -> gone.setExempt(0, 4, false));
    }

    private static void giveBlanket() {
        WatchLodgers lodgers = Check.loaded(TEXT);
        Check.same("P59 2", lodgers.giveBlanket(0), 2);
        Check.same("P59 3", lodgers.giveBlanket(0), 3);
        Check.noArgument("P59 3 blankets", () -> lodgers.giveBlanket(0));
        Check.noArgument("P59 3 blankets from the text", () -> lodgers.giveBlanket(1));
        Check.noIndex("P59 lodger", () -> lodgers.giveBlanket(2));
        Check.noIndex("P59 lodger", () -> lodgers.giveBlanket(-1));
        Check.noArgument("P59 gone", () -> Check.loaded(GONE).giveBlanket(0));
        Check.same("P59 blankets", lodgers.blankets(0), 3);
    }

    private static void bringMeals() {
        WatchLodgers lodgers = Check.loaded(TEXT);
        Check.same("P60 1", lodgers.bringMeals(1), 4);
        Check.same("P60 100", lodgers.bringMeals(100), 104);
        Check.noArgument("P60 0", () -> lodgers.bringMeals(0));
        Check.noArgument("P60 101", () -> lodgers.bringMeals(101));
        Check.noArgument("P60 least", () -> lodgers.bringMeals(Integer.MIN_VALUE));
        Check.same("P60 meals", lodgers.meals(), 104);
    }

    private static void setStorm() {
        WatchLodgers lodgers = Check.loaded(TEXT);
        Check.same("P61 the previous one", lodgers.setStorm(0, 9), 5);
        Check.same("P61 the previous one", lodgers.setStorm(0, 0), 9);
        Check.same("P61 another weekday", lodgers.setStorm(6, 1), 0);
        Check.same("P61 strength", lodgers.storm(6), 1);
        Check.noIndex("P61 weekday", () -> lodgers.setStorm(7, 10));
        Check.noIndex("P61 weekday", () -> lodgers.setStorm(-1, 0));
        Check.noArgument("P61 strength", () -> lodgers.setStorm(0, 10));
        Check.noArgument("P61 strength", () -> lodgers.setStorm(0, -1));
    }

    private static void undo() {
        WatchLodgers lodgers = Check.loaded(TEXT);
        lodgers.bringMeals(1);
        lodgers.bringMeals(10);
        lodgers.bringMeals(100);
        Check.same("P63 three", lodgers.undoable(), 3);
        Check.same("P62 two left", lodgers.undo(), 2);
        Check.same("P62 the most recent first", lodgers.meals(), 14);
        lodgers.bringMeals(50);
        Check.same("P62 a change after an undo", lodgers.undo(), 2);
        Check.same("P62 the change after an undo is undone", lodgers.meals(), 14);
        Check.same("P62 one left", lodgers.undo(), 1);
        Check.same("P62 none left", lodgers.undo(), 0);
        Check.same("P62 all undone", lodgers.meals(), 3);
        Check.noState("P62 nothing to undo", lodgers::undo);

        Check.feed(lodgers, "house 3 6 2;lodger abcdefg");
        Check.noArgument("a refused text", () -> lodgers.load(26));
        Check.feed(lodgers, "hou");
        lodgers.bringMeals(1);
        lodgers.undo();
        Check.same("P62 the buffer remains", lodgers.bufferLength(), 20);
        Check.same("P62 the error remains", lodgers.parseError(), 3);
        Check.same("P62 the position remains", lodgers.errorPosition(), 19);
    }

    private static void undoOfEachChange() {
        WatchLodgers lodgers = Check.loaded(TEXT + ";meals 50");
        lodgers.passWatches(60);
        lodgers.undo();
        Check.same("P62 passWatches", lodgers.watchesPassed() + lodgers.fund() + lodgers.darkWatches()
                + lodgers.substitutions() + lodgers.watchesOf(0) + lodgers.watchesToday(0) + lodgers.debt(1), 0);
        Check.same("P62 energy", lodgers.energy(0), 10);
        Check.same("P62 coins", lodgers.coins(1), 3);
        Check.same("P62 meals", lodgers.meals(), 53);
        Check.same("P62 gulls", lodgers.gulls(), 1);
        Check.same("P62 previous keeper", lodgers.previousKeeper(), WatchLodgers.NONE);
        lodgers.assign(1, 1, 0);
        lodgers.undo();
        Check.same("P62 assign", lodgers.rosterSize(), 1);
        lodgers.clear(0, 0);
        lodgers.undo();
        Check.same("P62 clear", lodgers.rostered(0, 0), 0);
        Check.same("P62 clear", lodgers.entryAt(0), 0);
        lodgers.setExempt(1, 3, false);
        lodgers.undo();
        Check.that("P62 setExempt", lodgers.isExempt(1, 3));
        lodgers.giveBlanket(0);
        lodgers.undo();
        Check.same("P62 giveBlanket", lodgers.blankets(0), 1);
        lodgers.setStorm(0, 1);
        lodgers.undo();
        Check.same("P62 setStorm", lodgers.storm(0), 5);
        WatchLodgers gone = Check.loaded("house 2 50 0;lodger a 1 0 0 0;exempt 0 1;roster 3 3 0;roster 2 1 0");
        gone.passWatches(8);
        Check.that("gone", !gone.isPresent(0));
        gone.undo();
        Check.that("P62 present again", gone.isPresent(0));
        Check.same("P62 entries again", gone.entryAt(1), 9);
        Check.that("P62 exemptions again", gone.isExempt(0, 1));
    }

    private static void undoIsDepthEight() {
        WatchLodgers lodgers = Check.loaded(TEXT);
        for (int change = 1; change <= 21; change++) {
            lodgers.bringMeals(1);
            Check.same("P63 at most 8", lodgers.undoable(), Math.min(8, change));
        }
        for (int left = 7; left >= 0; left--) {
            Check.same("P62 left", lodgers.undo(), left);
            Check.same("P62 meals", lodgers.meals(), 3 + 13 + left);
        }
        Check.noState("P62 the ninth", lodgers::undo);
        Check.same("P62 the older changes stay", lodgers.meals(), 16);
    }

    private static void saveAndRestore() {
        WatchLodgers lodgers = Check.loaded(TEXT);
        lodgers.passWatches(5);
        Check.same("P64 watches", lodgers.save(0), 5);
        Check.same("P64 is no change", lodgers.undoable(), 1);
        lodgers.passWatches(7);
        lodgers.assign(5, 3, 1);
        Check.same("P64 watches", lodgers.save(1), 12);
        lodgers.bringMeals(100);
        int meals = lodgers.meals();
        Check.same("P65 watches", lodgers.restore(0), 5);
        Check.same("P65 nothing can be undone", lodgers.undoable(), 0);
        Check.noState("P65 nothing can be undone", lodgers::undo);
        Check.same("P65 the roster", lodgers.rosterSize(), 1);
        lodgers.bringMeals(9);
        lodgers.passWatches(60);
        Check.same("P65 the state remains saved", lodgers.restore(0), 5);
        Check.same("P65 again", lodgers.watchesPassed(), 5);
        Check.same("P65 the other slot", lodgers.restore(1), 12);
        Check.same("P65 the other slot", lodgers.rostered(5, 3), 1);
        Check.same("P65 the meals before", lodgers.meals(), meals - 100);
        Check.same("P64 replaces", lodgers.save(0), 12);
        Check.same("P65 replaced", lodgers.restore(0), 12);
        lodgers.bringMeals(1);
        lodgers.save(0);
        lodgers.undo();
        Check.same("P65 undo does not touch what is saved", lodgers.restore(0), 12);
        Check.same("P65 undo does not touch what is saved", lodgers.meals(), meals - 99);
        Check.noIndex("P64 2", () -> lodgers.save(2));
        Check.noIndex("P64 -1", () -> lodgers.save(-1));
        Check.noIndex("P65 2", () -> lodgers.restore(2));
        Check.noIndex("P65 -1", () -> lodgers.restore(-1));
        Check.noState("P65 no state saved", () -> Check.loaded(TEXT).restore(0));
    }

    private static void refusedCallsAreNoChanges() {
        WatchLodgers lodgers = Check.loaded(GONE);
        Check.noArgument("refused", () -> lodgers.passWatches(61));
        Check.noArgument("refused", () -> lodgers.assign(0, 0, 0));
        Check.noArgument("refused", () -> lodgers.clear(0, 0));
        Check.noArgument("refused", () -> lodgers.setExempt(0, 0, true));
        Check.noArgument("refused", () -> lodgers.giveBlanket(0));
        Check.noArgument("refused", () -> lodgers.bringMeals(101));
        Check.noArgument("refused", () -> lodgers.setStorm(0, 10));
        Check.noIndex("refused", () -> lodgers.save(2));
        Check.noState("refused", () -> lodgers.restore(0));
        Check.same("P63 a call that throws changes nothing", lodgers.undoable(), 0);
        lodgers.bringMeals(1);
        Check.noState("refused", () -> lodgers.restore(0));
        Check.same("P63 a refused restore forgets nothing", lodgers.undoable(), 1);
    }
}
