/** All that an object tells of itself, as one text: two objects, or one before and after a call, can be compared. */
final class Snapshot {
    private final StringBuilder text = new StringBuilder();
    private final WatchLodgers lodgers;

    private Snapshot(WatchLodgers lodgers) {
        this.lodgers = lodgers;
    }

    /** Asks some 160 calls for three lodgers, and leaves the written text as it is. */
    static String of(WatchLodgers lodgers) {
        Snapshot snapshot = new Snapshot(lodgers);
        snapshot.put(lodgers.bufferLength(), lodgers.parseError(), lodgers.errorPosition(), lodgers.undoable());
        snapshot.putWrittenText();
        snapshot.text.append(ofHouse(lodgers));
        return snapshot.text.toString();
    }

    /** Only what undo() and restore() bring back. */
    static String ofHouse(WatchLodgers lodgers) {
        Snapshot snapshot = new Snapshot(lodgers);
        try {
            snapshot.putHouse();
        } catch (IllegalStateException notLoaded) {
            snapshot.text.append("no house");
        }
        return snapshot.text.toString();
    }

    private void put(int... values) {
        for (int value : values) {
            text.append(value).append(' ');
        }
        text.append('\n');
    }

    private void putWrittenText() {
        try {
            for (int index = 0; index < 100; index++) {
                text.append((char) lodgers.textByte(index));
            }
        } catch (IndexOutOfBoundsException end) {
            text.append("|\n");
        }
    }

    private void putHouse() {
        put(lodgers.watchesPassed(), lodgers.day(), lodgers.weekday(), lodgers.watch(), lodgers.floors(), lodgers.rent(),
                lodgers.wage(), lodgers.meals(), lodgers.gulls(), lodgers.fund(), lodgers.darkWatches(),
                lodgers.substitutions(), lodgers.inconsistencies(), lodgers.lodgerCount(), lodgers.presentCount(),
                lodgers.nextKeeper(), lodgers.previousKeeper(), lodgers.busiestLodger(), lodgers.exemptionCount());
        text.append(lodgers.isNextSubstitute()).append(lodgers.meanEnergy()).append(lodgers.darkShare()).append('\n');
        for (int weekday = 0; weekday < 7; weekday++) {
            put(lodgers.storm(weekday), lodgers.rostered(weekday, 0), lodgers.rostered(weekday, 1),
                    lodgers.rostered(weekday, 2), lodgers.rostered(weekday, 3));
        }
        for (int position = 0; position < lodgers.rosterSize(); position++) {
            put(lodgers.entryAt(position));
        }
        for (int lodger = 0; lodger < lodgers.lodgerCount(); lodger++) {
            putLodger(lodger);
        }
        put(lodgers.watchesUntilDark(), lodgers.darkAfter(300));
    }

    private void putLodger(int lodger) {
        put(lodgers.floorOf(lodger), lodgers.energy(lodger), lodgers.blankets(lodger), lodgers.coins(lodger),
                lodgers.debt(lodger), lodgers.watchesOf(lodger), lodgers.watchesToday(lodger), lodgers.rentToday(lodger),
                lodgers.entriesOf(lodger), lodgers.cost(lodger), lodgers.obstacle(lodger),
                lodgers.watchesUntilGone(lodger), lodgers.energyAfter(lodger, 9), lodgers.coinsAfter(lodger, 300));
        text.append(lodgers.isPresent(lodger));
        for (int watch = 0; watch < 4; watch++) {
            text.append(lodgers.isExempt(lodger, watch));
        }
        for (int index = 0; index < 6; index++) {
            put(lodgers.lodgerLetter(lodger, index));
        }
    }
}
