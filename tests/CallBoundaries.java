import java.util.function.Consumer;

/**
 * Section 6 of the document: a test for each sentence that names a boundary case; then, for each promise with arguments,
 * what it refuses just beyond its bounds and takes at them.
 */
final class CallBoundaries {
    private static final String TEXT = "house 3 6 2;lodger ann 0 10 1 20;lodger bob 2 5 0 3;lodger c 1 30 0 0;roster 0 0 0;"
            + "roster 6 0 1;roster 0 3 2;roster 3 1 0;storm 0 5;meals 3;gulls 1;exempt 1 3";
    /** Lodger 0 is gone, lodger 1 is present. */
    private static final String GONE = "house 2 50 0;lodger a 1 0 0 0;lodger b 1 0 0 200;roster 3 3 0;watches 8";

    private static final Class<IllegalStateException> STATE = IllegalStateException.class;
    private static final Class<IndexOutOfBoundsException> INDEX = IndexOutOfBoundsException.class;
    private static final Class<IllegalArgumentException> ARGUMENT = IllegalArgumentException.class;

    /** A call of the face with one argument that is tried out. */
    private interface Call {
        void with(WatchLodgers lodgers, int argument);
    }

    private CallBoundaries() {
    }

    static void run() {
        noTextLoaded();
        lodgersThatDoNotExist();
        weekdaysThatDoNotExist();
        watchesThatDoNotExist();
        positionsAndSlotsThatDoNotExist();
        argumentsOutOfRange();
        firstListedException();
        refusedCallsChangeNothing();
        refusedTextChangesNothing();
        eightChanges();
        changesAfterUndo();
        sinceLoad();
        sinceRestore();
        countsEvenIfNothingDiffers();
        undoOfEachChange();
        writtenTextRemains();
        none();
    }

    /** The argument is taken at the bounds, and refused beyond them without a change. */
    private static void bounds(String promise, Class<? extends RuntimeException> due, int least, int greatest, Call call) {
        for (int right : new int[] {least, greatest}) {
            WatchLodgers lodgers = Check.loaded(TEXT);
            try {
                call.with(lodgers, right);
                Check.that(promise, true);
            } catch (RuntimeException refused) {
                Check.that(promise + " takes " + right, false);
            }
            WatchLodgers fresh = new WatchLodgers();
            Check.refuses(promise + " of " + right + " before load", STATE, () -> call.with(fresh, right));
        }
        for (int wrong : new int[] {least - 1, greatest + 1, Integer.MIN_VALUE, Integer.MAX_VALUE}) {
            WatchLodgers lodgers = Check.loaded(TEXT);
            Check.refuses(promise + " of " + wrong, due, () -> call.with(lodgers, wrong));
            Check.same(promise + " of " + wrong + " changes nothing", Snapshot.of(lodgers),
                    Snapshot.of(Check.loaded(TEXT)));
            WatchLodgers fresh = new WatchLodgers();
            Check.refuses(promise + " of " + wrong + " before load", STATE, () -> call.with(fresh, wrong));
        }
    }

    /** "IllegalStateException is thrown if no text has been loaded yet." */
    private static void noTextLoaded() {
        WatchLodgers lodgers = new WatchLodgers();
        for (int round = 0; round < 2; round++) {
            Check.noState("P7", lodgers::watchesPassed);
            Check.noState("P8", lodgers::day);
            Check.noState("P9", lodgers::weekday);
            Check.noState("P10", lodgers::watch);
            Check.noState("P11", lodgers::floors);
            Check.noState("P12", lodgers::rent);
            Check.noState("P13", lodgers::wage);
            Check.noState("P14", lodgers::meals);
            Check.noState("P15", lodgers::gulls);
            Check.noState("P16", lodgers::fund);
            Check.noState("P18", lodgers::darkWatches);
            Check.noState("P19", lodgers::substitutions);
            Check.noState("P20", lodgers::inconsistencies);
            Check.noState("P21", lodgers::lodgerCount);
            Check.noState("P22", lodgers::presentCount);
            Check.noState("P33", lodgers::rosterSize);
            Check.noState("P38", lodgers::exemptionCount);
            Check.noState("P41", lodgers::nextKeeper);
            Check.noState("P42", lodgers::isNextSubstitute);
            Check.noState("P43", lodgers::previousKeeper);
            Check.noState("P44", lodgers::busiestLodger);
            Check.noState("P48", lodgers::watchesUntilDark);
            Check.noState("P50", lodgers::meanEnergy);
            Check.noState("P51", lodgers::darkShare);
            Check.noState("P62", lodgers::undo);
            Check.noState("P65", () -> lodgers.restore(0));
            Check.noState("P65", () -> lodgers.restore(1));
            // the second round: a text has been refused, so none has been loaded yet
            Check.noArgument("S6 a refused text", () -> Check.load(lodgers, "house 2 0 0"));
        }
        Check.load(lodgers, "house 2 0 0;lodger a 0 0 0 0");
        Check.noArgument("S6 a refused text", () -> Check.load(lodgers, "house 2 0 0"));
        Check.same("S6 a text has been loaded, then one refused", lodgers.floors(), 2);
    }

    /** "IndexOutOfBoundsException is thrown if a lodger .. does not exist." */
    private static void lodgersThatDoNotExist() {
        bounds("P23 lodgerLetter", INDEX, 0, 2, (lodgers, lodger) -> lodgers.lodgerLetter(lodger, 0));
        bounds("P23 lodgerLetter", INDEX, 0, 2, (lodgers, lodger) -> lodgers.lodgerLetter(lodger, -1));
        bounds("P24 isPresent", INDEX, 0, 2, (lodgers, lodger) -> lodgers.isPresent(lodger));
        bounds("P25 floorOf", INDEX, 0, 2, (lodgers, lodger) -> lodgers.floorOf(lodger));
        bounds("P26 energy", INDEX, 0, 2, (lodgers, lodger) -> lodgers.energy(lodger));
        bounds("P27 blankets", INDEX, 0, 2, (lodgers, lodger) -> lodgers.blankets(lodger));
        bounds("P28 coins", INDEX, 0, 2, (lodgers, lodger) -> lodgers.coins(lodger));
        bounds("P29 debt", INDEX, 0, 2, (lodgers, lodger) -> lodgers.debt(lodger));
        bounds("P30 watchesOf", INDEX, 0, 2, (lodgers, lodger) -> lodgers.watchesOf(lodger));
        bounds("P31 watchesToday", INDEX, 0, 2, (lodgers, lodger) -> lodgers.watchesToday(lodger));
        bounds("P32 rentToday", INDEX, 0, 2, (lodgers, lodger) -> lodgers.rentToday(lodger));
        bounds("P36 entriesOf", INDEX, 0, 2, (lodgers, lodger) -> lodgers.entriesOf(lodger));
        bounds("P37 isExempt", INDEX, 0, 2, (lodgers, lodger) -> lodgers.isExempt(lodger, 0));
        bounds("P39 cost", INDEX, 0, 2, (lodgers, lodger) -> lodgers.cost(lodger));
        bounds("P40 obstacle", INDEX, 0, 2, (lodgers, lodger) -> lodgers.obstacle(lodger));
        bounds("P45 energyAfter", INDEX, 0, 2, (lodgers, lodger) -> lodgers.energyAfter(lodger, 0));
        bounds("P46 coinsAfter", INDEX, 0, 2, (lodgers, lodger) -> lodgers.coinsAfter(lodger, 0));
        bounds("P49 watchesUntilGone", INDEX, 0, 2, (lodgers, lodger) -> lodgers.watchesUntilGone(lodger));
        bounds("P53 writeLodger", INDEX, 0, 2, (lodgers, lodger) -> lodgers.writeLodger(lodger));
        bounds("P56 assign", INDEX, 0, 2, (lodgers, lodger) -> lodgers.assign(0, 0, lodger));
        bounds("P58 setExempt", INDEX, 0, 2, (lodgers, lodger) -> lodgers.setExempt(lodger, 0, true));
        bounds("P59 giveBlanket", INDEX, 0, 2, (lodgers, lodger) -> lodgers.giveBlanket(lodger));
        WatchLodgers eight = Check.loaded("house 2 0 0" + HouseBoundaries.lodgers(8));
        Check.same("S6 lodger 7 of 8", eight.floorOf(7), 0);
        Check.noIndex("S6 lodger 8 of 8", () -> eight.floorOf(8));
        Check.load(eight, "house 2 0 0" + HouseBoundaries.lodgers(1));
        Check.noIndex("S6 a lodger of a house before", () -> eight.floorOf(1));
    }

    /** "IndexOutOfBoundsException is thrown if a .. weekday .. does not exist." */
    private static void weekdaysThatDoNotExist() {
        bounds("P17 storm", INDEX, 0, 6, (lodgers, weekday) -> lodgers.storm(weekday));
        bounds("P35 rostered", INDEX, 0, 6, (lodgers, weekday) -> lodgers.rostered(weekday, 0));
        bounds("P52 writeRoster", INDEX, 0, 6, (lodgers, weekday) -> lodgers.writeRoster(weekday));
        bounds("P56 assign", INDEX, 0, 6, (lodgers, weekday) -> lodgers.assign(weekday, 0, 0));
        bounds("P57 clear", INDEX, 0, 6, (lodgers, weekday) -> lodgers.clear(weekday, 0));
        bounds("P61 setStorm", INDEX, 0, 6, (lodgers, weekday) -> lodgers.setStorm(weekday, 0));
    }

    /** "IndexOutOfBoundsException is thrown if a .. watch .. does not exist." */
    private static void watchesThatDoNotExist() {
        bounds("P35 rostered", INDEX, 0, 3, (lodgers, watch) -> lodgers.rostered(0, watch));
        bounds("P35 rostered", INDEX, 0, 3, (lodgers, watch) -> lodgers.rostered(6, watch));
        bounds("P37 isExempt", INDEX, 0, 3, (lodgers, watch) -> lodgers.isExempt(0, watch));
        bounds("P56 assign", INDEX, 0, 3, (lodgers, watch) -> lodgers.assign(3, watch, 0));
        bounds("P57 clear", INDEX, 0, 3, (lodgers, watch) -> lodgers.clear(0, watch));
        bounds("P58 setExempt", INDEX, 0, 3, (lodgers, watch) -> lodgers.setExempt(2, watch, true));
        bounds("P58 setExempt", INDEX, 0, 3, (lodgers, watch) -> lodgers.setExempt(0, watch, false));
    }

    /** "IndexOutOfBoundsException is thrown if a .. position or slot does not exist." */
    private static void positionsAndSlotsThatDoNotExist() {
        bounds("P34 entryAt", INDEX, 0, 3, (lodgers, position) -> lodgers.entryAt(position));
        bounds("P64 save", INDEX, 0, 1, (lodgers, slot) -> lodgers.save(slot));
        WatchLodgers empty = Check.loaded("house 2 0 0;lodger a 0 0 0 0");
        Check.noIndex("P34 an empty roster", () -> empty.entryAt(0));
        for (int entry = 0; entry < 28; entry++) {
            empty.assign(entry / 4, entry % 4, 0);
        }
        Check.same("P34 the last of a full roster", empty.entryAt(27), 27);
        Check.noIndex("P34 behind a full roster", () -> empty.entryAt(28));
        empty.clear(3, 3);
        Check.noIndex("P34 behind the roster after one is removed", () -> empty.entryAt(27));
        for (int slot : new int[] {-1, 2, Integer.MIN_VALUE, Integer.MAX_VALUE}) {
            WatchLodgers saved = Check.loaded(TEXT);
            saved.save(0);
            saved.save(1);
            Check.noIndex("P65 slot " + slot, () -> saved.restore(slot));
            Check.noIndex("P65 slot " + slot + " before load", () -> new WatchLodgers().restore(slot));
        }
        for (int slot = 0; slot < 2; slot++) {
            WatchLodgers saved = Check.loaded(TEXT);
            int other = 1 - slot;
            saved.save(slot);
            Check.noState("P65 only the other slot is saved", () -> saved.restore(other));
            Check.same("P65 slot " + slot, saved.restore(slot), 0);
        }
    }

    /** "IllegalArgumentException if watches (count, strength) is out of range" */
    private static void argumentsOutOfRange() {
        bounds("P45 energyAfter", ARGUMENT, 0, 300, (lodgers, watches) -> lodgers.energyAfter(0, watches));
        bounds("P46 coinsAfter", ARGUMENT, 0, 300, (lodgers, watches) -> lodgers.coinsAfter(0, watches));
        bounds("P47 darkAfter", ARGUMENT, 0, 300, (lodgers, watches) -> lodgers.darkAfter(watches));
        bounds("P55 passWatches", ARGUMENT, 1, 60, (lodgers, watches) -> lodgers.passWatches(watches));
        bounds("P60 bringMeals", ARGUMENT, 1, 100, (lodgers, count) -> lodgers.bringMeals(count));
        bounds("P61 setStorm", ARGUMENT, 0, 9, (lodgers, strength) -> lodgers.setStorm(0, strength));
    }

    /** "If several exceptions apply to a call, the one that is listed first in its documentation is thrown." */
    private static void firstListedException() {
        WatchLodgers fresh = new WatchLodgers();
        Check.refuses("P45 state first", STATE, () -> fresh.energyAfter(-1, -1));
        Check.refuses("P46 state first", STATE, () -> fresh.coinsAfter(-1, 301));
        Check.refuses("P47 state first", STATE, () -> fresh.darkAfter(301));
        Check.refuses("P55 state first", STATE, () -> fresh.passWatches(0));
        Check.refuses("P56 state first", STATE, () -> fresh.assign(7, 4, 8));
        Check.refuses("P57 state first", STATE, () -> fresh.clear(0, 0));
        Check.refuses("P57 state first", STATE, () -> fresh.clear(7, 0));
        Check.refuses("P58 state first", STATE, () -> fresh.setExempt(8, 4, true));
        Check.refuses("P59 state first", STATE, () -> fresh.giveBlanket(8));
        Check.refuses("P60 state first", STATE, () -> fresh.bringMeals(101));
        Check.refuses("P61 state first", STATE, () -> fresh.setStorm(7, 10));
        Check.refuses("P64 state first", STATE, () -> fresh.save(2));
        Check.refuses("P65 index first", INDEX, () -> fresh.restore(2));
        WatchLodgers gone = Check.loaded(GONE);
        Check.refuses("P45 index before argument", INDEX, () -> gone.energyAfter(2, 301));
        Check.refuses("P46 index before argument", INDEX, () -> gone.coinsAfter(-1, -1));
        Check.refuses("P56 weekday before the lodger who is gone", INDEX, () -> gone.assign(7, 0, 0));
        Check.refuses("P56 watch before the lodger who is gone", INDEX, () -> gone.assign(0, 4, 0));
        Check.refuses("P58 watch before the lodger who is gone", INDEX, () -> gone.setExempt(0, 4, true));
        Check.refuses("P58 watch before the lodger who is gone", INDEX, () -> gone.setExempt(0, -1, false));
        Check.refuses("P61 weekday before strength", INDEX, () -> gone.setStorm(7, 10));
        Check.refuses("P61 weekday before strength", INDEX, () -> gone.setStorm(-1, -1));
        Check.refuses("P65 index before state", INDEX, () -> gone.restore(-1));
        WatchLodgers empty = new WatchLodgers();
        Check.refuses("P3 index before argument", INDEX, () -> empty.load(1));
    }

    private static void refusedWithoutChange(String call, String text, Class<? extends RuntimeException> due,
            Consumer<WatchLodgers> refused) {
        WatchLodgers lodgers = Check.loaded(text);
        lodgers.writeLodger(0);
        Check.refuses(call, due, () -> refused.accept(lodgers));
        WatchLodgers other = Check.loaded(text);
        other.writeLodger(0);
        Check.same(call + " changes nothing", Snapshot.of(lodgers), Snapshot.of(other));
    }

    /** "A call that throws an exception changes nothing" */
    private static void refusedCallsChangeNothing() {
        refusedWithoutChange("P56 gone", GONE, ARGUMENT, lodgers -> lodgers.assign(0, 0, 0));
        refusedWithoutChange("P57 no entry", GONE, ARGUMENT, lodgers -> lodgers.clear(0, 0));
        refusedWithoutChange("P57 an entry of one who is gone", GONE, ARGUMENT, lodgers -> lodgers.clear(3, 3));
        refusedWithoutChange("P58 gone", GONE, ARGUMENT, lodgers -> lodgers.setExempt(0, 0, true));
        refusedWithoutChange("P58 gone", GONE, ARGUMENT, lodgers -> lodgers.setExempt(0, 3, false));
        refusedWithoutChange("P59 gone", GONE, ARGUMENT, lodgers -> lodgers.giveBlanket(0));
        refusedWithoutChange("P59 3 blankets", "house 2 0 0;lodger a 0 0 3 0", ARGUMENT, lodgers -> lodgers.giveBlanket(0));
        refusedWithoutChange("P62 nothing to undo", TEXT, STATE, WatchLodgers::undo);
        refusedWithoutChange("P65 nothing saved", TEXT, STATE, lodgers -> lodgers.restore(0));
        refusedWithoutChange("P52 weekday", TEXT, INDEX, lodgers -> lodgers.writeRoster(7));
        refusedWithoutChange("P53 lodger", TEXT, INDEX, lodgers -> lodgers.writeLodger(3));
        refusedWithoutChange("P54 index", TEXT, INDEX, lodgers -> lodgers.textByte(6));
        refusedWithoutChange("P3 length", TEXT, INDEX, lodgers -> lodgers.load(1));
        WatchLodgers saved = Check.loaded(TEXT);
        saved.save(0);
        saved.bringMeals(1);
        Check.noIndex("P64 slot", () -> saved.save(2));
        Check.noState("P65 nothing saved", () -> saved.restore(1));
        Check.same("P65 a refused restore forgets no change", saved.undoable(), 1);
        Check.same("P65 the other slot", saved.restore(0), 0);
        Check.same("P65 the state that was saved", saved.meals(), 3);
    }

    /** "changes nothing, with the exceptions that are stated for load()": the previous house remains */
    private static void refusedTextChangesNothing() {
        WatchLodgers lodgers = Check.loaded(TEXT);
        lodgers.save(0);
        lodgers.passWatches(60);
        lodgers.save(1);
        lodgers.bringMeals(9);
        String before = Snapshot.ofHouse(lodgers);
        Check.noArgument("P3 a text with an error at its end", () -> Check.load(lodgers, GONE + ";lodger"));
        Check.same("P3 the previous house remains", Snapshot.ofHouse(lodgers), before);
        Check.same("P3 changes can still be undone", lodgers.undo(), 1);
        Check.same("P3 a state is still saved", lodgers.restore(1), 60);
        Check.same("P3 the other state is still saved", lodgers.restore(0), 0);
    }

    /** "The 8 most recent changes .. can be undone, the most recent one first." */
    private static void eightChanges() {
        for (int changes = 0; changes <= 20; changes++) {
            WatchLodgers lodgers = Check.loaded("house 2 0 0;lodger a 0 0 0 0");
            for (int change = 1; change <= changes; change++) {
                Check.same("P63 changes", lodgers.undoable(), Math.min(8, change - 1));
                lodgers.bringMeals(1);
            }
            int undoable = Math.min(8, changes);
            Check.same("P63 of " + changes, lodgers.undoable(), undoable);
            for (int undone = 1; undone <= undoable; undone++) {
                Check.same("P62 of " + changes, lodgers.undo(), undoable - undone);
                Check.same("P63 after undo", lodgers.undoable(), undoable - undone);
                Check.same("P62 the most recent first", lodgers.meals(), changes - undone);
            }
            Check.noState("P62 no more than 8", lodgers::undo);
            Check.same("P63 none", lodgers.undoable(), 0);
            Check.same("P62 the older ones stay", lodgers.meals(), changes - undoable);
        }
    }

    /** "Undoes the most recent change that has not been undone." */
    private static void changesAfterUndo() {
        WatchLodgers lodgers = Check.loaded("house 2 0 0;lodger a 0 0 0 0");
        for (int change = 0; change < 10; change++) {
            lodgers.bringMeals(1);
        }
        lodgers.undo();
        lodgers.undo();
        Check.same("P62 three of ten undone", lodgers.undo(), 5);
        for (int change = 0; change < 5; change++) {
            lodgers.bringMeals(10);
        }
        Check.same("P63 at most 8", lodgers.undoable(), 8);
        int[] due = {47, 37, 27, 17, 7, 6, 5, 4};
        for (int left = 7; left >= 0; left--) {
            Check.same("P62 left", lodgers.undo(), left);
            Check.same("P62 not what has been undone", lodgers.meals(), due[7 - left]);
        }
        Check.noState("P62 no more", lodgers::undo);
    }

    /** "since the last successful call of load()": "On success .. nothing can be undone, and no state is saved" */
    private static void sinceLoad() {
        WatchLodgers lodgers = Check.loaded(TEXT);
        lodgers.save(0);
        lodgers.save(1);
        for (int change = 0; change < 9; change++) {
            lodgers.bringMeals(1);
        }
        lodgers.passWatches(6);
        Check.load(lodgers, TEXT);
        Check.same("P63 since load", lodgers.undoable(), 0);
        Check.noState("P62 since load", lodgers::undo);
        Check.noState("P65 no state is saved", () -> lodgers.restore(0));
        Check.noState("P65 no state is saved", () -> lodgers.restore(1));
        Check.same("P3 a house as new", Snapshot.of(lodgers), Snapshot.of(Check.loaded(TEXT)));
        lodgers.bringMeals(1);
        Check.same("P62 a change since load", lodgers.undo(), 0);
        for (int watches : new int[] {0, 1, 3, 4, 300}) {
            WatchLodgers before = Check.loaded(TEXT);
            before.energyAfter(0, watches);
            Check.load(before, TEXT);
            Check.same("P3 after a prediction of " + watches, Snapshot.of(before), Snapshot.of(Check.loaded(TEXT)));
            before.passWatches(watches % 60 + 1);
            Check.load(before, TEXT);
            Check.same("P3 after " + watches, Snapshot.of(before), Snapshot.of(Check.loaded(TEXT)));
        }
    }

    /** "since the last successful call of .. restore()": "The state remains saved, and nothing can be undone afterwards." */
    private static void sinceRestore() {
        WatchLodgers lodgers = Check.loaded(TEXT);
        lodgers.passWatches(7);
        Check.same("P64 watches", lodgers.save(1), 7);
        String saved = Snapshot.ofHouse(lodgers);
        for (int change = 0; change < 9; change++) {
            lodgers.passWatches(60);
        }
        lodgers.setStorm(5, 5);
        Check.same("P65 watches of the restored state", lodgers.restore(1), 7);
        Check.same("P65 the state that was saved", Snapshot.ofHouse(lodgers), saved);
        Check.same("P63 since restore", lodgers.undoable(), 0);
        Check.noState("P62 since restore", lodgers::undo);
        lodgers.bringMeals(1);
        Check.same("P62 a change since restore", lodgers.undo(), 0);
        lodgers.giveBlanket(1);
        lodgers.setStorm(6, 6);
        Check.same("P65 the state remains saved", lodgers.restore(1), 7);
        Check.same("P65 blankets as saved", lodgers.blankets(1), 0);
        Check.same("P65 storms as saved", lodgers.storm(6), 0);
    }

    /** "A successful call of a change counts even if nothing differs afterwards." */
    private static void countsEvenIfNothingDiffers() {
        WatchLodgers lodgers = Check.loaded(TEXT);
        Check.same("P56 the same lodger", lodgers.assign(0, 0, 0), 0);
        Check.same("P63 assign", lodgers.undoable(), 1);
        Check.that("P58 exempt already", lodgers.setExempt(1, 3, true));
        Check.same("P63 setExempt", lodgers.undoable(), 2);
        Check.that("P58 not exempt already", !lodgers.setExempt(1, 0, false));
        Check.same("P63 setExempt", lodgers.undoable(), 3);
        Check.same("P61 the same strength", lodgers.setStorm(0, 5), 5);
        Check.same("P63 setStorm", lodgers.undoable(), 4);
        for (int left = 3; left >= 0; left--) {
            Check.same("P62 each of them", lodgers.undo(), left);
        }
        lodgers.save(0);
        lodgers.writeRoster(0);
        lodgers.energyAfter(0, 300);
        Check.same("P63 what is no change does not count", lodgers.undoable(), 0);
    }

    private static void undone(String call, String text, Consumer<WatchLodgers> change) {
        WatchLodgers lodgers = Check.loaded(text);
        String before = Snapshot.ofHouse(lodgers);
        change.accept(lodgers);
        Check.that(call + " changes something", !Snapshot.ofHouse(lodgers).equals(before));
        Check.same(call + " is the only change", lodgers.undo(), 0);
        Check.same(call + " is undone", Snapshot.ofHouse(lodgers), before);
    }

    /** "The methods in the last group below are changes." */
    private static void undoOfEachChange() {
        undone("P55 one watch", TEXT, lodgers -> lodgers.passWatches(1));
        undone("P55 60 watches", TEXT, lodgers -> lodgers.passWatches(60));
        undone("P55 until all are gone", "house 2 50 0;lodger a 1 30 0 9;lodger b 1 0 0 0;roster 5 1 0;roster 4 1 1;"
                + "exempt 0 1;exempt 1 3;meals 5;gale 3", lodgers -> lodgers.passWatches(9));
        undone("P56 a new entry", TEXT, lodgers -> lodgers.assign(6, 3, 2));
        undone("P56 another lodger", TEXT, lodgers -> lodgers.assign(6, 0, 2));
        undone("P57 the first entry", TEXT, lodgers -> lodgers.clear(0, 0));
        undone("P57 the last entry", TEXT, lodgers -> lodgers.clear(3, 1));
        undone("P58 added", TEXT, lodgers -> lodgers.setExempt(2, 0, true));
        undone("P58 removed", TEXT, lodgers -> lodgers.setExempt(1, 3, false));
        undone("P59", TEXT, lodgers -> lodgers.giveBlanket(0));
        undone("P60", TEXT, lodgers -> lodgers.bringMeals(1));
        undone("P61", TEXT, lodgers -> lodgers.setStorm(6, 9));
    }

    /** "The written text remains until another text is written; load(), undo() and restore() do not affect it." */
    private static void writtenTextRemains() {
        WatchLodgers lodgers = Check.loaded(TEXT);
        Check.noIndex("P54 before a text has been written", () -> lodgers.textByte(0));
        Check.same("P53 length", lodgers.writeLodger(0), 6);
        lodgers.save(0);
        lodgers.passWatches(8);
        Check.same("S6 a change", Check.written(lodgers, 6), "ann:10");
        lodgers.undo();
        Check.same("S6 undo", Check.written(lodgers, 6), "ann:10");
        lodgers.restore(0);
        Check.same("S6 restore", Check.written(lodgers, 6), "ann:10");
        Check.noArgument("S6 a refused text", () -> Check.load(lodgers, "zap"));
        Check.load(lodgers, "house 2 0 0;lodger q 0 0 0 0");
        Check.same("S6 load", Check.written(lodgers, 6), "ann:10");
        Check.noIndex("S6 its end", () -> lodgers.textByte(6));
        Check.same("S6 a shorter text", Check.written(lodgers, lodgers.writeLodger(0)), "q:0");
        Check.noIndex("S6 the end of the shorter text", () -> lodgers.textByte(3));
        Check.same("S6 a longer text", Check.written(lodgers, lodgers.writeRoster(6)), "- - - -");
        Check.noIndex("S6 the end of the longer text", () -> lodgers.textByte(7));
    }

    /** "NONE = -1" */
    private static void none() {
        Check.same("S6 NONE", WatchLodgers.NONE, -1);
    }
}
