import java.util.Arrays;

/**
 * A simulator of a lighthouse whose lodgers keep the watches at the lamp by a roster and by house rules.
 *
 * <p>The public face checks what it is given and throws; the nested classes are only ever handed numbers that
 * have been checked. All houses are made once, in the constructor, because what a run of calls makes is counted.
 */
public final class WatchLodgers {
    public static final int NONE = -1;

    private static final int BUFFER_SIZE = 600;
    private static final int APPENDED_BYTES = 20;
    private static final int MAX_LODGERS = 8;
    private static final int MAX_NAME = 6;
    private static final int WEEKDAYS = 7;
    private static final int WATCHES = 4;
    private static final int ENTRIES = WEEKDAYS * WATCHES;
    private static final int MAX_ENERGY = 30;
    private static final int MAX_BLANKETS = 3;
    private static final int MAX_GULLS = 20;
    private static final int MAX_STRENGTH = 9;
    private static final int MAX_MEALS_BROUGHT = 100;
    private static final int MAX_DEBT = 50;
    private static final int DARK_FINE = 5;
    private static final int SICK_DAYS = 2;
    private static final int MAX_PASSED_AT_ONCE = 60;
    private static final int MAX_PASSED_IN_TEXT = 1000;
    private static final int MAX_PREDICTED = 300;
    private static final int SLOTS = 2;

    private final byte[] buffer = new byte[BUFFER_SIZE];
    private int buffered;
    private boolean loaded;
    private final House house = new House();
    /** Where texts are parsed and predictions run, so that the house stays as it is until a text has succeeded. */
    private final House trial = new House();
    private final Parser parser = new Parser(buffer, trial);
    private final History history = new History();
    private final House[] savedHouses = new House[SLOTS];
    private final boolean[] isSaved = new boolean[SLOTS];
    private final StringBuilder written = new StringBuilder();

    public WatchLodgers() {
        for (int slot = 0; slot < SLOTS; slot++) {
            savedHouses[slot] = new House();
        }
    }

    // ---- input

    public int append(int a, int b, int c, int d, int e) {
        if (buffered + APPENDED_BYTES > BUFFER_SIZE) {
            return NONE;
        }
        bufferBytesOf(a);
        bufferBytesOf(b);
        bufferBytesOf(c);
        bufferBytesOf(d);
        bufferBytesOf(e);
        return buffered;
    }

    private void bufferBytesOf(int fourBytes) {
        for (int shift = 24; shift >= 0 && buffered < BUFFER_SIZE; shift -= 8) {
            buffer[buffered] = (byte) (fourBytes >> shift);
            buffered++;
        }
    }

    public int load(int length) throws IndexOutOfBoundsException, IllegalArgumentException {
        if (length < 0 || length > buffered) {
            throw new IndexOutOfBoundsException();
        }
        // The parser leaves by an exception if the text has an error, and the buffer is to be empty then too.
        buffered = 0;
        parser.parseText(length);
        house.copyFrom(trial);
        loaded = true;
        history.forgetAll();
        forgetSaved();
        return house.lodgerCount;
    }

    private void forgetSaved() {
        for (int slot = 0; slot < SLOTS; slot++) {
            isSaved[slot] = false;
        }
    }

    public int parseError() {
        return parser.error;
    }

    public int errorPosition() {
        return parser.errorAt;
    }

    public int bufferLength() {
        return buffered;
    }

    // ---- house and time

    public int watchesPassed() throws IllegalStateException {
        requireHouse();
        return house.passedCount();
    }

    public int day() throws IllegalStateException {
        requireHouse();
        return house.today;
    }

    public int weekday() throws IllegalStateException {
        requireHouse();
        return house.today % WEEKDAYS;
    }

    public int watch() throws IllegalStateException {
        requireHouse();
        return house.nextWatch;
    }

    public int floors() throws IllegalStateException {
        requireHouse();
        return house.floorCount;
    }

    public int rent() throws IllegalStateException {
        requireHouse();
        return house.dailyRent;
    }

    public int wage() throws IllegalStateException {
        requireHouse();
        return house.watchWage;
    }

    public int meals() throws IllegalStateException {
        requireHouse();
        return house.pantry;
    }

    public int gulls() throws IllegalStateException {
        requireHouse();
        return house.gullCount;
    }

    public int fund() throws IllegalStateException {
        requireHouse();
        return house.fundCoins;
    }

    public int storm(int weekday) throws IllegalStateException, IndexOutOfBoundsException {
        requireHouse();
        requireIndex(weekday, WEEKDAYS);
        return house.storms[weekday];
    }

    public int darkWatches() throws IllegalStateException {
        requireHouse();
        return house.darkCount;
    }

    public int substitutions() throws IllegalStateException {
        requireHouse();
        return house.substitutedCount;
    }

    public int inconsistencies() throws IllegalStateException {
        requireHouse();
        return house.watchesUnaccounted() + house.coinsUnaccounted() + house.remainsOfGone();
    }

    // ---- lodgers

    public int lodgerCount() throws IllegalStateException {
        requireHouse();
        return house.lodgerCount;
    }

    public int presentCount() throws IllegalStateException {
        requireHouse();
        return house.countPresent();
    }

    public int lodgerLetter(int lodger, int index) throws IllegalStateException, IndexOutOfBoundsException {
        String name = requireLodger(lodger).name;
        if (index < 0 || index >= name.length()) {
            return NONE;
        }
        return name.charAt(index);
    }

    public boolean isPresent(int lodger) throws IllegalStateException, IndexOutOfBoundsException {
        return !requireLodger(lodger).gone;
    }

    public int floorOf(int lodger) throws IllegalStateException, IndexOutOfBoundsException {
        return requireLodger(lodger).floor;
    }

    public int energy(int lodger) throws IllegalStateException, IndexOutOfBoundsException {
        return requireLodger(lodger).energy;
    }

    public int blankets(int lodger) throws IllegalStateException, IndexOutOfBoundsException {
        return requireLodger(lodger).blankets;
    }

    public int coins(int lodger) throws IllegalStateException, IndexOutOfBoundsException {
        return requireLodger(lodger).coins;
    }

    public int debt(int lodger) throws IllegalStateException, IndexOutOfBoundsException {
        return requireLodger(lodger).debt;
    }

    public int watchesOf(int lodger) throws IllegalStateException, IndexOutOfBoundsException {
        return requireLodger(lodger).keptEver;
    }

    public int watchesToday(int lodger) throws IllegalStateException, IndexOutOfBoundsException {
        return requireLodger(lodger).keptToday;
    }

    public int rentToday(int lodger) throws IllegalStateException, IndexOutOfBoundsException {
        Lodger owing = requireLodger(lodger);
        return owing.gone ? 0 : owing.rentDue(house.dailyRent);
    }

    // ---- roster and exemptions

    public int rosterSize() throws IllegalStateException {
        requireHouse();
        return house.roster.size;
    }

    public int entryAt(int position) throws IllegalStateException, IndexOutOfBoundsException {
        requireHouse();
        requireIndex(position, house.roster.size);
        return house.roster.order[position];
    }

    public int rostered(int weekday, int watch) throws IllegalStateException, IndexOutOfBoundsException {
        return house.roster.lodgerAt[requireEntry(weekday, watch)];
    }

    public int entriesOf(int lodger) throws IllegalStateException, IndexOutOfBoundsException {
        requireLodger(lodger);
        return house.roster.countOf(lodger);
    }

    public boolean isExempt(int lodger, int watch) throws IllegalStateException, IndexOutOfBoundsException {
        Lodger asked = requireLodger(lodger);
        requireIndex(watch, WATCHES);
        return asked.exempt[watch];
    }

    public int exemptionCount() throws IllegalStateException {
        requireHouse();
        return house.countExemptions();
    }

    // ---- the next watch

    public int cost(int lodger) throws IllegalStateException, IndexOutOfBoundsException {
        return house.costFor(requireLodger(lodger));
    }

    public int obstacle(int lodger) throws IllegalStateException, IndexOutOfBoundsException {
        requireLodger(lodger);
        return house.obstacleFor(lodger);
    }

    public int nextKeeper() throws IllegalStateException {
        requireHouse();
        return house.findKeeper();
    }

    public boolean isNextSubstitute() throws IllegalStateException {
        requireHouse();
        return house.isSubstitute(house.findKeeper());
    }

    public int previousKeeper() throws IllegalStateException {
        requireHouse();
        return house.lastKeeper;
    }

    public int busiestLodger() throws IllegalStateException {
        requireHouse();
        return house.findBusiest();
    }

    // ---- predictions (the house does not change)

    public int energyAfter(int lodger, int watches)
            throws IllegalStateException, IndexOutOfBoundsException, IllegalArgumentException {
        requireLodger(lodger);
        predict(watches);
        return trial.lodgers[lodger].energy;
    }

    public int coinsAfter(int lodger, int watches)
            throws IllegalStateException, IndexOutOfBoundsException, IllegalArgumentException {
        requireLodger(lodger);
        predict(watches);
        return trial.lodgers[lodger].coins;
    }

    public int darkAfter(int watches) throws IllegalStateException, IllegalArgumentException {
        requireHouse();
        predict(watches);
        return trial.darkCount;
    }

    private void predict(int watches) {
        requireRange(watches, 0, MAX_PREDICTED);
        trial.copyFrom(house);
        for (int passed = 0; passed < watches; passed++) {
            trial.passWatch();
        }
    }

    public int watchesUntilDark() throws IllegalStateException {
        requireHouse();
        trial.copyFrom(house);
        for (int passed = 1; passed <= MAX_PREDICTED; passed++) {
            trial.passWatch();
            if (trial.darkCount > house.darkCount) {
                return passed;
            }
        }
        return NONE;
    }

    public int watchesUntilGone(int lodger) throws IllegalStateException, IndexOutOfBoundsException {
        if (requireLodger(lodger).gone) {
            return 0;
        }
        trial.copyFrom(house);
        for (int passed = 1; passed <= MAX_PREDICTED; passed++) {
            trial.passWatch();
            if (trial.lodgers[lodger].gone) {
                return passed;
            }
        }
        return NONE;
    }

    // ---- averages

    public double meanEnergy() throws IllegalStateException {
        requireHouse();
        int present = house.countPresent();
        return present == 0 ? 0.0 : (double) house.sumPresentEnergy() / (double) present;
    }

    public float darkShare() throws IllegalStateException {
        requireHouse();
        int passed = house.passedCount();
        return passed == 0 ? 0.0f : (float) house.darkCount / (float) passed;
    }

    // ---- written text

    public int writeRoster(int weekday) throws IllegalStateException, IndexOutOfBoundsException {
        requireHouse();
        requireIndex(weekday, WEEKDAYS);
        written.setLength(0);
        for (int watch = 0; watch < WATCHES; watch++) {
            if (watch > 0) {
                written.append(' ');
            }
            int keeper = house.roster.lodgerAt[weekday * WATCHES + watch];
            if (keeper == NONE) {
                written.append('-');
            } else {
                written.append(house.lodgers[keeper].name);
            }
        }
        return written.length();
    }

    public int writeLodger(int lodger) throws IllegalStateException, IndexOutOfBoundsException {
        Lodger described = requireLodger(lodger);
        written.setLength(0);
        written.append(described.name);
        if (described.gone) {
            written.append('!');
        }
        written.append(':');
        written.append(described.energy);
        if (described.debt != 0) {
            written.append('-');
            written.append(described.debt);
        }
        return written.length();
    }

    public int textByte(int index) throws IndexOutOfBoundsException {
        requireIndex(index, written.length());
        return written.charAt(index);
    }

    // ---- changes

    public int passWatches(int watches) throws IllegalStateException, IllegalArgumentException {
        requireHouse();
        requireRange(watches, 1, MAX_PASSED_AT_ONCE);
        history.remember(house);
        int darkBefore = house.darkCount;
        for (int passed = 0; passed < watches; passed++) {
            house.passWatch();
        }
        return house.darkCount - darkBefore;
    }

    public int assign(int weekday, int watch, int lodger)
            throws IllegalStateException, IndexOutOfBoundsException, IllegalArgumentException {
        int entry = requireEntry(weekday, watch);
        requirePresent(requireLodger(lodger));
        history.remember(house);
        int before = house.roster.lodgerAt[entry];
        house.roster.put(entry, lodger);
        return before;
    }

    public int clear(int weekday, int watch)
            throws IllegalStateException, IndexOutOfBoundsException, IllegalArgumentException {
        int entry = requireEntry(weekday, watch);
        int before = house.roster.lodgerAt[entry];
        if (before == NONE) {
            throw new IllegalArgumentException();
        }
        history.remember(house);
        house.roster.remove(entry);
        return before;
    }

    public boolean setExempt(int lodger, int watch, boolean exempt)
            throws IllegalStateException, IndexOutOfBoundsException, IllegalArgumentException {
        Lodger changed = requireLodger(lodger);
        requireIndex(watch, WATCHES);
        requirePresent(changed);
        history.remember(house);
        boolean before = changed.exempt[watch];
        changed.exempt[watch] = exempt;
        return before;
    }

    public int giveBlanket(int lodger)
            throws IllegalStateException, IndexOutOfBoundsException, IllegalArgumentException {
        Lodger changed = requireLodger(lodger);
        requirePresent(changed);
        if (changed.blankets >= MAX_BLANKETS) {
            throw new IllegalArgumentException();
        }
        history.remember(house);
        changed.blankets++;
        return changed.blankets;
    }

    public int bringMeals(int count) throws IllegalStateException, IllegalArgumentException {
        requireHouse();
        requireRange(count, 1, MAX_MEALS_BROUGHT);
        history.remember(house);
        house.pantry += count;
        return house.pantry;
    }

    public int setStorm(int weekday, int strength)
            throws IllegalStateException, IndexOutOfBoundsException, IllegalArgumentException {
        requireHouse();
        requireIndex(weekday, WEEKDAYS);
        requireRange(strength, 0, MAX_STRENGTH);
        history.remember(house);
        int before = house.storms[weekday];
        house.storms[weekday] = strength;
        return before;
    }

    public int undo() throws IllegalStateException {
        if (history.count == 0) {
            throw new IllegalStateException();
        }
        history.takeBack(house);
        return history.count;
    }

    public int undoable() {
        return history.count;
    }

    public int save(int slot) throws IllegalStateException, IndexOutOfBoundsException {
        requireHouse();
        requireIndex(slot, SLOTS);
        savedHouses[slot].copyFrom(house);
        isSaved[slot] = true;
        return house.passedCount();
    }

    public int restore(int slot) throws IndexOutOfBoundsException, IllegalStateException {
        requireIndex(slot, SLOTS);
        if (!isSaved[slot]) {
            throw new IllegalStateException();
        }
        house.copyFrom(savedHouses[slot]);
        history.forgetAll();
        return house.passedCount();
    }

    // ---- what the calls above require, each throwing what the document names

    private void requireHouse() {
        if (!loaded) {
            throw new IllegalStateException();
        }
    }

    private Lodger requireLodger(int lodger) {
        requireHouse();
        requireIndex(lodger, house.lodgerCount);
        return house.lodgers[lodger];
    }

    private int requireEntry(int weekday, int watch) {
        requireHouse();
        requireIndex(weekday, WEEKDAYS);
        requireIndex(watch, WATCHES);
        return weekday * WATCHES + watch;
    }

    private static void requireIndex(int index, int count) {
        if (index < 0 || index >= count) {
            throw new IndexOutOfBoundsException();
        }
    }

    private static void requireRange(int value, int least, int greatest) {
        if (value < least || value > greatest) {
            throw new IllegalArgumentException();
        }
    }

    private static void requirePresent(Lodger lodger) {
        if (lodger.gone) {
            throw new IllegalArgumentException();
        }
    }

    /** One lodger, present or gone. */
    private static final class Lodger {
        String name = "";
        int floor;
        int energy;
        int blankets;
        int coins;
        int debt;
        int sickDays;
        boolean gone;
        int keptEver;
        int keptToday;
        final boolean[] exempt = new boolean[WATCHES];

        void reset() {
            debt = 0;
            sickDays = 0;
            gone = false;
            keptEver = 0;
            keptToday = 0;
            dropExemptions();
        }

        void copyFrom(Lodger other) {
            name = other.name;
            floor = other.floor;
            energy = other.energy;
            blankets = other.blankets;
            coins = other.coins;
            debt = other.debt;
            sickDays = other.sickDays;
            gone = other.gone;
            keptEver = other.keptEver;
            keptToday = other.keptToday;
            for (int watch = 0; watch < WATCHES; watch++) {
                exempt[watch] = other.exempt[watch];
            }
        }

        void dropExemptions() {
            for (int watch = 0; watch < WATCHES; watch++) {
                exempt[watch] = false;
            }
        }

        int countExemptions() {
            int count = 0;
            for (int watch = 0; watch < WATCHES; watch++) {
                if (exempt[watch]) {
                    count++;
                }
            }
            return count;
        }

        void gainEnergy(int amount) {
            energy = Math.min(MAX_ENERGY, energy + amount);
        }

        void loseEnergy(int amount) {
            energy = Math.max(0, energy - amount);
        }

        int rentDue(int dailyRent) {
            return Math.max(0, dailyRent - 2 * keptToday);
        }
    }

    /** The entries, each named by the number 4 times its weekday plus its watch. */
    private static final class Roster {
        final int[] lodgerAt = new int[ENTRIES];
        final int[] order = new int[ENTRIES];
        int size;

        void reset() {
            Arrays.fill(lodgerAt, NONE);
            size = 0;
        }

        void copyFrom(Roster other) {
            System.arraycopy(other.lodgerAt, 0, lodgerAt, 0, ENTRIES);
            System.arraycopy(other.order, 0, order, 0, ENTRIES);
            size = other.size;
        }

        void put(int entry, int lodger) {
            if (lodgerAt[entry] == NONE && size < ENTRIES) {
                order[size] = entry;
                size++;
            }
            lodgerAt[entry] = lodger;
        }

        void remove(int entry) {
            int kept = 0;
            for (int position = 0; position < size; position++) {
                if (order[position] != entry) {
                    order[kept] = order[position];
                    kept++;
                }
            }
            size = kept;
            lodgerAt[entry] = NONE;
        }

        void removeAllOf(int lodger) {
            int kept = 0;
            for (int position = 0; position < size; position++) {
                int entry = order[position];
                if (lodgerAt[entry] == lodger) {
                    lodgerAt[entry] = NONE;
                } else {
                    order[kept] = entry;
                    kept++;
                }
            }
            size = kept;
        }

        int countOf(int lodger) {
            int count = 0;
            for (int entry = 0; entry < ENTRIES; entry++) {
                if (lodgerAt[entry] == lodger) {
                    count++;
                }
            }
            return count;
        }

        void copyWeekday(int from, int to) {
            for (int watch = 0; watch < WATCHES; watch++) {
                int lodger = lodgerAt[from * WATCHES + watch];
                if (lodger != NONE) {
                    put(to * WATCHES + watch, lodger);
                }
            }
        }
    }

    /** The whole state of a simulation: all that can be undone, saved and predicted. */
    private static final class House {
        int floorCount;
        int dailyRent;
        int watchWage;
        int fundCoins;
        int pantry;
        int gullCount;
        int today;
        int nextWatch;
        int darkCount;
        int substitutedCount;
        int lastKeeper = NONE;
        int lodgerCount;
        /** Coins that lodgers had when they were appended, and wages: only for the check of the invariants. */
        int coinsReceived;
        /** Coins that the fund lost by dark watches: only for the check of the invariants. */
        int coinsFined;
        final int[] storms = new int[WEEKDAYS];
        final Lodger[] lodgers = new Lodger[MAX_LODGERS];
        final Roster roster = new Roster();

        House() {
            for (int lodger = 0; lodger < MAX_LODGERS; lodger++) {
                lodgers[lodger] = new Lodger();
            }
        }

        void reset() {
            fundCoins = 0;
            pantry = 0;
            gullCount = 0;
            today = 0;
            nextWatch = 0;
            darkCount = 0;
            substitutedCount = 0;
            lastKeeper = NONE;
            lodgerCount = 0;
            coinsReceived = 0;
            coinsFined = 0;
            Arrays.fill(storms, 0);
            roster.reset();
        }

        void copyFrom(House other) {
            floorCount = other.floorCount;
            dailyRent = other.dailyRent;
            watchWage = other.watchWage;
            fundCoins = other.fundCoins;
            pantry = other.pantry;
            gullCount = other.gullCount;
            today = other.today;
            nextWatch = other.nextWatch;
            darkCount = other.darkCount;
            substitutedCount = other.substitutedCount;
            lastKeeper = other.lastKeeper;
            lodgerCount = other.lodgerCount;
            coinsReceived = other.coinsReceived;
            coinsFined = other.coinsFined;
            System.arraycopy(other.storms, 0, storms, 0, WEEKDAYS);
            roster.copyFrom(other.roster);
            for (int lodger = 0; lodger < MAX_LODGERS; lodger++) {
                lodgers[lodger].copyFrom(other.lodgers[lodger]);
            }
        }

        int passedCount() {
            return today * WATCHES + nextWatch;
        }

        int nextEntry() {
            return today % WEEKDAYS * WATCHES + nextWatch;
        }

        int countPresent() {
            int count = 0;
            for (int lodger = 0; lodger < lodgerCount; lodger++) {
                if (!lodgers[lodger].gone) {
                    count++;
                }
            }
            return count;
        }

        int sumPresentEnergy() {
            int sum = 0;
            for (int lodger = 0; lodger < lodgerCount; lodger++) {
                if (!lodgers[lodger].gone) {
                    sum += lodgers[lodger].energy;
                }
            }
            return sum;
        }

        int countExemptions() {
            int count = 0;
            for (int lodger = 0; lodger < lodgerCount; lodger++) {
                count += lodgers[lodger].countExemptions();
            }
            return count;
        }

        int findBusiest() {
            int busiest = 0;
            for (int lodger = 1; lodger < lodgerCount; lodger++) {
                if (lodgers[lodger].keptEver > lodgers[busiest].keptEver) {
                    busiest = lodger;
                }
            }
            return busiest;
        }

        boolean hasName(String name) {
            for (int lodger = 0; lodger < lodgerCount; lodger++) {
                if (lodgers[lodger].name.equals(name)) {
                    return true;
                }
            }
            return false;
        }

        // ---- the check of the invariants

        int watchesUnaccounted() {
            int accounted = darkCount;
            for (int lodger = 0; lodger < lodgerCount; lodger++) {
                accounted += lodgers[lodger].keptEver;
            }
            return Math.abs(passedCount() - accounted);
        }

        int coinsUnaccounted() {
            int held = fundCoins;
            for (int lodger = 0; lodger < lodgerCount; lodger++) {
                held += lodgers[lodger].coins;
            }
            return Math.abs(held - (coinsReceived - coinsFined));
        }

        int remainsOfGone() {
            int count = 0;
            for (int lodger = 0; lodger < lodgerCount; lodger++) {
                if (lodgers[lodger].gone) {
                    count += roster.countOf(lodger) + lodgers[lodger].countExemptions();
                }
            }
            return count;
        }

        // ---- one watch

        int costFor(Lodger lodger) {
            return floorCount - lodger.floor + storms[today % WEEKDAYS] / 2;
        }

        int obstacleFor(int number) {
            Lodger lodger = lodgers[number];
            if (lodger.gone) {
                return 1;
            }
            if (lodger.exempt[nextWatch]) {
                return 2;
            }
            if (lodger.energy < costFor(lodger)) {
                return 3;
            }
            if (number == lastKeeper) {
                return 4;
            }
            return lodger.sickDays > 0 ? 5 : 0;
        }

        int findKeeper() {
            int rosteredLodger = roster.lodgerAt[nextEntry()];
            if (rosteredLodger != NONE && obstacleFor(rosteredLodger) == 0) {
                return rosteredLodger;
            }
            int substitute = NONE;
            for (int lodger = 0; lodger < lodgerCount; lodger++) {
                boolean isFresher = substitute == NONE || lodgers[lodger].keptEver < lodgers[substitute].keptEver;
                if (isFresher && obstacleFor(lodger) == 0) {
                    substitute = lodger;
                }
            }
            return substitute;
        }

        /** Whether a keeper of the next watch is one: the rostered lodger only ever keeps it as the rostered one. */
        boolean isSubstitute(int keeper) {
            return keeper != NONE && keeper != roster.lodgerAt[nextEntry()];
        }

        void passWatch() {
            int keeper = findKeeper();
            if (isSubstitute(keeper)) {
                substitutedCount++;
            }
            if (keeper == NONE) {
                stayDark();
            } else {
                keepWatch(lodgers[keeper]);
            }
            lastKeeper = keeper;
            nextWatch++;
            if (nextWatch == WATCHES) {
                rest();
                robPantry();
                serveMeals();
                sleepInStorm(storms[today % WEEKDAYS]);
                collectRent();
                beginNextDay();
            }
        }

        void stayDark() {
            int fine = Math.min(DARK_FINE, fundCoins);
            darkCount++;
            fundCoins -= fine;
            coinsFined += fine;
        }

        void keepWatch(Lodger keeper) {
            keeper.energy -= costFor(keeper);
            keeper.coins += watchWage;
            coinsReceived += watchWage;
            keeper.keptEver++;
            keeper.keptToday++;
        }

        // ---- the end of a day

        void rest() {
            for (int number = 0; number < lodgerCount; number++) {
                Lodger lodger = lodgers[number];
                if (lodger.gone) {
                    continue;
                }
                if (lodger.keptToday == 0) {
                    lodger.gainEnergy(2);
                }
                lodger.sickDays = Math.max(0, lodger.sickDays - 1);
            }
        }

        void robPantry() {
            pantry = Math.max(0, pantry - gullCount);
            if (pantry > 0) {
                gullCount = Math.min(MAX_GULLS, gullCount + 1);
            } else {
                gullCount = Math.max(0, gullCount - 1);
            }
        }

        void serveMeals() {
            for (int number = 0; number < lodgerCount; number++) {
                Lodger lodger = lodgers[number];
                if (lodger.gone) {
                    continue;
                }
                if (pantry > 0) {
                    pantry--;
                    lodger.gainEnergy(6);
                } else {
                    lodger.loseEnergy(4);
                }
            }
        }

        void sleepInStorm(int strength) {
            for (int number = 0; number < lodgerCount; number++) {
                Lodger lodger = lodgers[number];
                if (lodger.gone) {
                    continue;
                }
                int cold = strength - 3 * lodger.blankets;
                if (cold > 0) {
                    lodger.loseEnergy(cold);
                }
                if (lodger.energy == 0) {
                    lodger.sickDays = SICK_DAYS;
                }
            }
        }

        void collectRent() {
            for (int number = 0; number < lodgerCount; number++) {
                Lodger lodger = lodgers[number];
                if (lodger.gone) {
                    continue;
                }
                int due = lodger.rentDue(dailyRent);
                lodger.debt += due - takeCoins(lodger, due);
                if (lodger.debt > MAX_DEBT) {
                    lodger.gone = true;
                    lodger.dropExemptions();
                    roster.removeAllOf(number);
                }
            }
        }

        void beginNextDay() {
            today++;
            nextWatch = 0;
            for (int lodger = 0; lodger < lodgerCount; lodger++) {
                lodgers[lodger].keptToday = 0;
            }
        }

        /** Moves as much of an amount as the lodger has to the fund, and tells how much that is. */
        int takeCoins(Lodger payer, int amount) {
            int paid = Math.min(payer.coins, amount);
            payer.coins -= paid;
            fundCoins += paid;
            return paid;
        }

        // ---- what only a text can do

        void tidyRoster() {
            for (int entry = 0; entry < ENTRIES; entry++) {
                int lodger = roster.lodgerAt[entry];
                if (lodger != NONE && lodgers[lodger].exempt[entry % WATCHES]) {
                    roster.remove(entry);
                }
            }
        }

        void rotateRoster() {
            for (int entry = 0; entry < ENTRIES; entry++) {
                int lodger = roster.lodgerAt[entry];
                if (lodger != NONE) {
                    roster.lodgerAt[entry] = nextPresentAfter(lodger);
                }
            }
        }

        /** The lodger itself if no other one is present. */
        int nextPresentAfter(int lodger) {
            for (int step = 1; step < lodgerCount; step++) {
                int next = (lodger + step) % lodgerCount;
                if (!lodgers[next].gone) {
                    return next;
                }
            }
            return lodger;
        }
    }

    /** The houses before the most recent changes, in a ring, so that the oldest one gives its place to a new one. */
    private static final class History {
        private static final int DEPTH = 8;

        private final House[] houses = new House[DEPTH];
        private int oldest;
        private int count;

        History() {
            for (int place = 0; place < DEPTH; place++) {
                houses[place] = new House();
            }
        }

        void forgetAll() {
            oldest = 0;
            count = 0;
        }

        void remember(House house) {
            houses[(oldest + count) % DEPTH].copyFrom(house);
            if (count < DEPTH) {
                count++;
            } else {
                oldest = (oldest + 1) % DEPTH;
            }
        }

        void takeBack(House house) {
            if (count > 0) {
                count--;
                house.copyFrom(houses[(oldest + count) % DEPTH]);
            }
        }
    }

    /** Splits the first bytes of a buffer into tokens, one at a time. */
    private static final class Scanner {
        static final int END = 0;
        static final int WORD = 1;
        static final int NUMBER = 2;
        static final int SEMICOLON = 3;
        static final int OPEN = 4;
        static final int CLOSE = 5;
        static final int INVALID = 6;

        private static final int MAX_LETTERS = 7;
        private static final int MAX_DIGITS = 3;

        private final byte[] text;
        private final StringBuilder letters = new StringBuilder();
        private int length;
        /** The first byte behind the token. */
        private int position;
        private int kind;
        private int start;

        Scanner(byte[] text) {
            this.text = text;
        }

        void begin(int textLength) {
            length = Math.min(textLength, text.length);
            jumpTo(0);
        }

        void jumpTo(int place) {
            position = Math.max(0, place);
        }

        void advance() {
            skipRange(' ', ' ');
            start = position;
            if (position >= length) {
                kind = END;
                return;
            }
            int first = text[position];
            if (first >= 'a' && first <= 'z') {
                skipRange('a', 'z');
                kind = size() <= MAX_LETTERS ? WORD : INVALID;
            } else if (first >= '0' && first <= '9') {
                skipRange('0', '9');
                kind = size() <= MAX_DIGITS ? NUMBER : INVALID;
            } else {
                position++;
                kind = kindOfSign(first);
            }
        }

        private void skipRange(int least, int greatest) {
            while (position < length && text[position] >= least && text[position] <= greatest) {
                position++;
            }
        }

        private static int kindOfSign(int sign) {
            switch (sign) {
                case ';':
                    return SEMICOLON;
                case '(':
                    return OPEN;
                case ')':
                    return CLOSE;
                default:
                    return INVALID;
            }
        }

        int size() {
            return position - start;
        }

        boolean isWord(String word) {
            if (kind != WORD || size() != word.length()) {
                return false;
            }
            for (int letter = 0; letter < word.length(); letter++) {
                if (text[start + letter] != word.charAt(letter)) {
                    return false;
                }
            }
            return true;
        }

        String word() {
            letters.setLength(0);
            for (int at = start; at < position; at++) {
                letters.append((char) text[at]);
            }
            return letters.toString();
        }

        int number() {
            int value = 0;
            for (int at = start; at < position; at++) {
                value = value * 10 + text[at] - '0';
            }
            return value;
        }
    }

    /** Lets a text take effect on a house, token by token, up to the first token that is invalid. */
    private static final class Parser {
        private static final int MAX_OPEN = 2;
        /** More lines than a full buffer can hold, each of them taking effect in the most times that there are. */
        private static final int MAX_LINES = BUFFER_SIZE * 9 * 9;

        private static final int UNGRAMMATICAL = 1;
        private static final int OUT_OF_RANGE = 2;
        private static final int UNFIT = 3;
        private static final int TOO_MANY = 4;
        private static final int NO_LODGER = 4;

        private final Scanner scanner;
        private final House house;
        private final int[] bodyStarts = new int[MAX_OPEN];
        private final int[] timesLeft = new int[MAX_OPEN];
        private int openCount;
        private int error;
        private int errorAt = NONE;

        Parser(byte[] text, House house) {
            this.scanner = new Scanner(text);
            this.house = house;
        }

        void parseText(int length) {
            error = 0;
            errorAt = NONE;
            openCount = 0;
            scanner.begin(length);
            house.reset();
            parseHouse();
            boolean hasLine = moveToNextLine();
            for (int lines = 0; hasLine && lines < MAX_LINES; lines++) {
                scanner.advance();
                if (scanner.isWord("repeat")) {
                    openRepeat();
                } else {
                    parseLine();
                    hasLine = moveToNextLine();
                }
            }
            if (house.lodgerCount == 0) {
                fail(NO_LODGER);
            }
        }

        /** Always leaves by the exception that load() throws. */
        private void fail(int code) {
            error = code;
            errorAt = scanner.start;
            throw new IllegalArgumentException();
        }

        private void parseHouse() {
            scanner.advance();
            if (!scanner.isWord("house")) {
                fail(UNGRAMMATICAL);
            }
            house.floorCount = readNumber(2, 9);
            house.dailyRent = readNumber(0, 50);
            house.watchWage = readNumber(0, 20);
        }

        /** Ends the brackets behind a line or starts them again, and tells whether a line follows. */
        private boolean moveToNextLine() {
            for (int closed = 0; closed <= MAX_OPEN; closed++) {
                scanner.advance();
                if (scanner.kind == Scanner.SEMICOLON) {
                    return true;
                }
                if (scanner.kind == Scanner.END && openCount == 0) {
                    return false;
                }
                if (scanner.kind != Scanner.CLOSE || openCount == 0) {
                    fail(UNGRAMMATICAL);
                }
                if (startsAgain(openCount - 1)) {
                    return true;
                }
                openCount--;
            }
            return false;
        }

        private boolean startsAgain(int repeat) {
            timesLeft[repeat]--;
            if (timesLeft[repeat] == 0) {
                return false;
            }
            scanner.jumpTo(bodyStarts[repeat]);
            return true;
        }

        private void openRepeat() {
            if (openCount >= MAX_OPEN) {
                fail(TOO_MANY);
            }
            int times = readNumber(1, 9);
            scanner.advance();
            if (scanner.kind != Scanner.OPEN) {
                fail(UNGRAMMATICAL);
            }
            timesLeft[openCount] = times;
            bodyStarts[openCount] = scanner.position;
            openCount++;
        }

        private void parseLine() {
            if (scanner.isWord("lodger")) {
                parseLodger();
            } else if (scanner.isWord("roster")) {
                parseRoster();
            } else if (scanner.isWord("clear")) {
                house.roster.remove(readTakenEntry());
            } else if (scanner.isWord("exempt")) {
                parseExemption(true);
            } else if (scanner.isWord("release")) {
                parseExemption(false);
            } else if (scanner.isWord("storm")) {
                parseStorm();
            } else if (scanner.isWord("gale")) {
                Arrays.fill(house.storms, readNumber(0, MAX_STRENGTH));
            } else if (scanner.isWord("meals")) {
                house.pantry += readNumber(1, MAX_MEALS_BROUGHT);
            } else if (scanner.isWord("gulls")) {
                house.gullCount = readNumber(0, MAX_GULLS);
            } else if (scanner.isWord("blanket")) {
                parseBlanket();
            } else if (scanner.isWord("swap")) {
                parseSwap();
            } else if (scanner.isWord("copy")) {
                parseCopy();
            } else if (scanner.isWord("tidy")) {
                house.tidyRoster();
            } else if (scanner.isWord("rotate")) {
                house.rotateRoster();
            } else if (scanner.isWord("feast")) {
                house.serveMeals();
            } else if (scanner.isWord("watches")) {
                parseWatches();
            } else if (scanner.isWord("move")) {
                parseMove();
            } else if (scanner.isWord("lend")) {
                parseLend();
            } else if (scanner.isWord("pay")) {
                parsePay();
            } else if (scanner.isWord("readmit")) {
                parseReadmit();
            } else {
                fail(UNGRAMMATICAL);
            }
        }

        // ---- one line each

        private void parseLodger() {
            if (house.lodgerCount >= MAX_LODGERS) {
                fail(TOO_MANY);
            }
            Lodger lodger = house.lodgers[house.lodgerCount];
            lodger.reset();
            lodger.name = readNewName();
            lodger.floor = readNumber(0, house.floorCount - 1);
            lodger.energy = readNumber(0, MAX_ENERGY);
            lodger.blankets = readNumber(0, MAX_BLANKETS);
            lodger.coins = readNumber(0, 200);
            house.coinsReceived += lodger.coins;
            house.lodgerCount++;
        }

        private void parseRoster() {
            int entry = readEntry();
            house.roster.put(entry, readPresentLodger());
        }

        private void parseExemption(boolean exempt) {
            Lodger lodger = house.lodgers[readPresentLodger()];
            int watch = readNumber(0, WATCHES - 1);
            if (lodger.exempt[watch] == exempt) {
                fail(UNFIT);
            }
            lodger.exempt[watch] = exempt;
        }

        private void parseStorm() {
            int weekday = readNumber(0, WEEKDAYS - 1);
            house.storms[weekday] = readNumber(0, MAX_STRENGTH);
        }

        private void parseBlanket() {
            Lodger lodger = house.lodgers[readPresentLodger()];
            if (lodger.blankets >= MAX_BLANKETS) {
                fail(UNFIT);
            }
            lodger.blankets++;
        }

        private void parseSwap() {
            int first = readTakenEntry();
            int second = readTakenEntry();
            if (first == second) {
                fail(UNFIT);
            }
            int[] lodgerAt = house.roster.lodgerAt;
            int lodger = lodgerAt[first];
            lodgerAt[first] = lodgerAt[second];
            lodgerAt[second] = lodger;
        }

        private void parseCopy() {
            int from = readNumber(0, WEEKDAYS - 1);
            int to = readNumber(0, WEEKDAYS - 1);
            if (from == to) {
                fail(UNFIT);
            }
            house.roster.copyWeekday(from, to);
        }

        private void parseMove() {
            Lodger lodger = house.lodgers[readPresentLodger()];
            int floor = readNumber(0, house.floorCount - 1);
            if (lodger.floor == floor) {
                fail(UNFIT);
            }
            lodger.floor = floor;
        }

        private void parseLend() {
            int first = readLodger();
            int second = readLodger();
            if (first == second) {
                fail(UNFIT);
            }
            int amount = readNumber(1, 200);
            if (amount > house.lodgers[first].coins) {
                fail(UNFIT);
            }
            house.lodgers[first].coins -= amount;
            house.lodgers[second].coins += amount;
        }

        private void parsePay() {
            Lodger payer = house.lodgers[readPresentLodger()];
            payer.debt -= house.takeCoins(payer, payer.debt);
        }

        private void parseReadmit() {
            Lodger lodger = house.lodgers[readLodger()];
            if (!lodger.gone) {
                fail(UNFIT);
            }
            lodger.gone = false;
            lodger.debt = 0;
        }

        private void parseWatches() {
            int watches = readNumber(1, MAX_PASSED_AT_ONCE);
            if (house.passedCount() + watches > MAX_PASSED_IN_TEXT) {
                fail(TOO_MANY);
            }
            for (int passed = 0; passed < watches; passed++) {
                house.passWatch();
            }
        }

        // ---- one item each

        private int readNumber(int least, int greatest) {
            scanner.advance();
            if (scanner.kind != Scanner.NUMBER) {
                fail(UNGRAMMATICAL);
            }
            int value = scanner.number();
            if (value < least || value > greatest) {
                fail(OUT_OF_RANGE);
            }
            return value;
        }

        private String readNewName() {
            scanner.advance();
            if (scanner.kind != Scanner.WORD) {
                fail(UNGRAMMATICAL);
            }
            String name = scanner.word();
            if (name.length() > MAX_NAME || house.hasName(name)) {
                fail(UNFIT);
            }
            return name;
        }

        private int readLodger() {
            return readNumber(0, house.lodgerCount - 1);
        }

        private int readPresentLodger() {
            int lodger = readNumber(0, house.lodgerCount - 1);
            if (house.lodgers[lodger].gone) {
                fail(UNFIT);
            }
            return lodger;
        }

        private int readEntry() {
            int weekday = readNumber(0, WEEKDAYS - 1);
            return weekday * WATCHES + readNumber(0, WATCHES - 1);
        }

        private int readTakenEntry() {
            int weekday = readNumber(0, WEEKDAYS - 1);
            int entry = weekday * WATCHES + readNumber(0, WATCHES - 1);
            if (house.roster.lodgerAt[entry] == NONE) {
                fail(UNFIT);
            }
            return entry;
        }
    }
}
