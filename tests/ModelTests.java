import java.util.Random;
import java.util.function.Supplier;

/** Random runs of calls, the same on every run of the tests, each answer compared with the one of Model. */
final class ModelTests {
    private static final String[] WORDS = {
        "lodger", "roster", "clear", "exempt", "storm", "meals", "gulls", "blanket", "swap", "copy", "release", "tidy",
        "rotate", "gale", "feast", "move", "lend", "pay", "readmit", "watches", "repeat",
    };

    private final Random random;
    private final WatchLodgers real = new WatchLodgers();
    private final Model model = new Model();
    private int calls;
    private int differences;

    private ModelTests(long seed) {
        random = new Random(seed);
    }

    static void run() {
        int runs = Integer.getInteger("runs", 400);
        int differing = 0;
        for (int seed = 0; seed < runs; seed++) {
            ModelTests test = new ModelTests(seed);
            test.play();
            Check.same("differences in random run " + seed, test.differences, 0);
            differing += test.differences > 0 ? 1 : 0;
            if (differing > 5) {
                return;
            }
        }
    }

    private void compare(String call, Supplier<Object> got, Supplier<Object> due) {
        calls++;
        String answer = outcome(got);
        String wanted = outcome(due);
        if (!answer.equals(wanted) && differences++ < 3) {
            System.out.println(call + " answered " + answer + ", by the model " + wanted);
        }
    }

    private static String outcome(Supplier<Object> call) {
        try {
            return String.valueOf(call.get());
        } catch (RuntimeException thrown) {
            return "throws " + thrown.getClass().getSimpleName();
        }
    }

    private void play() {
        while (calls < 500) {
            int kind = random.nextInt(20);
            if (model.s == null || kind == 0 && random.nextInt(3) == 0) {
                loadText(goodText());
            } else if (kind == 0) {
                loadText(spoiled(goodText()));
            } else if (kind < 9) {
                change();
            } else {
                ask();
            }
            if (random.nextInt(40) == 0) {
                askAll();
            }
        }
    }

    // ---- texts

    private void loadText(String text) {
        for (int from = 0; from < text.length(); from += 20) {
            int[] words = new int[5];
            for (int at = 0; at < 20; at++) {
                int sign = from + at < text.length() ? text.charAt(from + at) : 32;
                words[at / 4] = words[at / 4] << 8 | sign;
            }
            compare("append", () -> real.append(words[0], words[1], words[2], words[3], words[4]),
                    () -> model.append(words[0], words[1], words[2], words[3], words[4]));
        }
        int length = random.nextInt(20) == 0 ? random.nextInt(620) - 10 : text.length();
        compare("load '" + text + "' " + length, () -> real.load(length), () -> model.load(length));
        compare("parseError of '" + text + "'", real::parseError, () -> model.error);
        compare("errorPosition of '" + text + "'", real::errorPosition, () -> model.errorAt);
        compare("bufferLength", real::bufferLength, () -> model.buffer.length());
    }

    /** A text that grows by lines which the model takes; now and then by one that it does not take. */
    private String goodText() {
        StringBuilder text = new StringBuilder("house ").append(2 + random.nextInt(8)).append(' ')
                .append(random.nextInt(random.nextBoolean() ? 51 : 12)).append(' ').append(random.nextInt(21));
        int wanted = random.nextInt(40);
        for (int line = 0; line < 4 * wanted && text.length() < 560; line++) {
            String tried = text + (random.nextInt(9) == 0 ? " ; " : ";") + (line < 3 || random.nextInt(20) == 0 ? line("lodger")
                    : line(WORDS[random.nextInt(WORDS.length)]));
            if (tried.length() <= 600 && (random.nextInt(800) == 0 || isTaken(tried))) {
                text = new StringBuilder(tried);
            }
        }
        return text.toString();
    }

    private static boolean isTaken(String text) {
        try {
            new Model.Reader(text).read();
            return true;
        } catch (Model.Fault fault) {
            return false;
        }
    }

    private String line(String word) {
        switch (word) {
            case "lodger":
                return word + " " + name() + numbers(9, 31, 4, random.nextInt(201) + 1);
            case "roster":
                return word + numbers(7, 4, 8);
            case "clear":
                return word + numbers(7, 4);
            case "exempt":
            case "release":
                return word + numbers(8, 4);
            case "storm":
                return word + numbers(7, 10);
            case "gale":
                return word + numbers(10);
            case "meals":
                return word + numbers(102);
            case "gulls":
                return word + numbers(22);
            case "watches":
                return word + numbers(62);
            case "blanket":
            case "pay":
            case "readmit":
                return word + numbers(8);
            case "swap":
                return word + numbers(7, 4, 7, 4);
            case "copy":
                return word + numbers(7, 7);
            case "move":
                return word + numbers(8, 9);
            case "lend":
                return word + numbers(8, 8, 60);
            case "repeat":
                StringBuilder text = new StringBuilder("repeat").append(numbers(10)).append(random.nextBoolean() ? "(" : " ( ");
                int lines = 1 + random.nextInt(3);
                for (int i = 0; i < lines; i++) {
                    text.append(i == 0 ? "" : ";").append(line(WORDS[random.nextInt(WORDS.length)]));
                }
                return text.append(")").toString();
            default:
                return word;
        }
    }

    private String name() {
        if (random.nextInt(6) == 0) {
            String word = WORDS[random.nextInt(WORDS.length)];
            return word.length() > 6 && random.nextBoolean() ? "x" : word;
        }
        StringBuilder name = new StringBuilder();
        for (int left = 1 + random.nextInt(6); left > 0; left--) {
            name.append((char) ('a' + random.nextInt(26)));
        }
        return name.toString();
    }

    private String numbers(int... bounds) {
        StringBuilder text = new StringBuilder();
        for (int bound : bounds) {
            text.append(random.nextInt(30) == 0 ? " 0" : " ").append(random.nextInt(bound));
        }
        return text.toString();
    }

    private String spoiled(String text) {
        StringBuilder spoiled = new StringBuilder(text);
        int at = random.nextInt(text.length());
        String signs = "0123456789 ;()az,A\u0000\u00ff-";
        switch (random.nextInt(4)) {
            case 0:
                spoiled.setCharAt(at, signs.charAt(random.nextInt(signs.length())));
                break;
            case 1:
                spoiled.insert(at, signs.charAt(random.nextInt(signs.length())));
                break;
            case 2:
                spoiled.deleteCharAt(at);
                break;
            default:
                spoiled.setLength(at);
                break;
        }
        spoiled.setLength(Math.min(600, spoiled.length()));
        return spoiled.toString();
    }

    // ---- calls

    private int number(int bound) {
        return random.nextInt(25) == 0 ? (random.nextBoolean() ? -1 : bound) : random.nextInt(bound);
    }

    private int lodger() {
        return number(model.s.guests.size());
    }

    private void change() {
        int a = number(7);
        int b = number(4);
        int l = lodger();
        switch (random.nextInt(14)) {
            case 0, 1, 2: {
                int n = random.nextInt(4) == 0 ? number(61) : 1 + random.nextInt(9);
                compare("passWatches(" + n + ")", () -> real.passWatches(n), () -> model.passWatches(n));
                break;
            }
            case 3, 4:
                compare("assign(" + a + ", " + b + ", " + l + ")", () -> real.assign(a, b, l), () -> model.assign(a, b, l));
                break;
            case 5:
                compare("clear(" + a + ", " + b + ")", () -> real.clear(a, b), () -> model.clear(a, b));
                break;
            case 6: {
                boolean exempt = random.nextBoolean();
                compare("setExempt(" + l + ", " + b + ", " + exempt + ")", () -> real.setExempt(l, b, exempt),
                        () -> model.setExempt(l, b, exempt));
                break;
            }
            case 7:
                compare("giveBlanket(" + l + ")", () -> real.giveBlanket(l), () -> model.giveBlanket(l));
                break;
            case 8: {
                int n = number(101);
                compare("bringMeals(" + n + ")", () -> real.bringMeals(n), () -> model.bringMeals(n));
                break;
            }
            case 9: {
                int n = number(10);
                compare("setStorm(" + a + ", " + n + ")", () -> real.setStorm(a, n), () -> model.setStorm(a, n));
                break;
            }
            case 10, 11:
                compare("undo()", real::undo, model::undo);
                break;
            case 12: {
                int slot = number(2);
                compare("save(" + slot + ")", () -> real.save(slot), () -> model.save(slot));
                break;
            }
            default: {
                int slot = number(2);
                compare("restore(" + slot + ")", () -> real.restore(slot), () -> model.restore(slot));
                break;
            }
        }
        compare("undoable()", real::undoable, () -> model.undo.size());
    }

    private void ask() {
        int l = lodger();
        int n = number(301);
        int day = number(7);
        switch (random.nextInt(12)) {
            case 0:
                compare("energyAfter(" + l + ", " + n + ")", () -> real.energyAfter(l, n), () -> {
                    model.guest(l);
                    return model.after(n).guests.get(l).energy;
                });
                break;
            case 1:
                compare("coinsAfter(" + l + ", " + n + ")", () -> real.coinsAfter(l, n), () -> {
                    model.guest(l);
                    return model.after(n).guests.get(l).coins;
                });
                break;
            case 2:
                compare("darkAfter(" + n + ")", () -> real.darkAfter(n), () -> model.after(n).dark);
                break;
            case 3:
                compare("watchesUntilDark()", real::watchesUntilDark, model::watchesUntilDark);
                break;
            case 4:
                compare("watchesUntilGone(" + l + ")", () -> real.watchesUntilGone(l), () -> model.watchesUntilGone(l));
                break;
            case 5:
                compare("writeRoster(" + day + ")", () -> real.writeRoster(day), () -> model.writeRoster(day));
                break;
            case 6:
                compare("writeLodger(" + l + ")", () -> real.writeLodger(l), () -> model.writeLodger(l));
                break;
            case 7: {
                int index = number(Math.max(1, model.written.length()));
                compare("textByte(" + index + ")", () -> real.textByte(index), () -> model.textByte(index));
                break;
            }
            default:
                askOfHouse();
                break;
        }
    }

    private void askOfHouse() {
        Model.State s = model.s;
        compare("nextKeeper()", real::nextKeeper, s::keeper);
        compare("isNextSubstitute()", real::isNextSubstitute, s::substitute);
        compare("previousKeeper()", real::previousKeeper, () -> s.previous);
        compare("inconsistencies()", real::inconsistencies, () -> 0);
    }

    private void askAll() {
        Model.State s = model.s;
        if (s == null) {
            return;
        }
        compare("watchesPassed()", real::watchesPassed, () -> s.passed);
        compare("day()", real::day, () -> s.passed / 4);
        compare("weekday()", real::weekday, () -> s.passed / 4 % 7);
        compare("watch()", real::watch, () -> s.passed % 4);
        compare("floors()", real::floors, () -> s.floors);
        compare("rent()", real::rent, () -> s.rent);
        compare("wage()", real::wage, () -> s.wage);
        compare("meals()", real::meals, () -> s.meals);
        compare("gulls()", real::gulls, () -> s.gulls);
        compare("fund()", real::fund, () -> s.fund);
        compare("darkWatches()", real::darkWatches, () -> s.dark);
        compare("substitutions()", real::substitutions, () -> s.substituted);
        compare("lodgerCount()", real::lodgerCount, () -> s.guests.size());
        compare("presentCount()", real::presentCount, () -> s.present().size());
        compare("rosterSize()", real::rosterSize, () -> s.roster.size());
        compare("exemptionCount()", real::exemptionCount, () -> s.exempt.size());
        compare("meanEnergy()", real::meanEnergy, () -> s.present().isEmpty() ? 0.0
                : (double) s.present().stream().mapToInt(g -> g.energy).sum() / s.present().size());
        compare("darkShare()", real::darkShare, () -> s.passed == 0 ? 0.0f : (float) s.dark / s.passed);
        compare("busiestLodger()", real::busiestLodger, () -> {
            int most = s.guests.stream().mapToInt(g -> g.kept).max().orElse(0);
            int first = 0;
            while (s.guests.get(first).kept != most) {
                first++;
            }
            return first;
        });
        for (int i = 0; i < 7; i++) {
            int day = i;
            compare("storm(" + day + ")", () -> real.storm(day), () -> s.storm[day]);
            for (int watch = 0; watch < 4; watch++) {
                int w = watch;
                compare("rostered(" + day + ", " + w + ")", () -> real.rostered(day, w),
                        () -> s.roster.getOrDefault(4 * day + w, -1));
            }
        }
        int position = 0;
        for (int entry : s.roster.keySet()) {
            int p = position++;
            compare("entryAt(" + p + ")", () -> real.entryAt(p), () -> entry);
        }
        for (int lodger = 0; lodger < s.guests.size(); lodger++) {
            askLodger(lodger, s.guests.get(lodger));
        }
    }

    private void askLodger(int l, Model.Guest g) {
        Model.State s = model.s;
        compare("isPresent(" + l + ")", () -> real.isPresent(l), () -> !g.gone);
        compare("floorOf(" + l + ")", () -> real.floorOf(l), () -> g.floor);
        compare("energy(" + l + ")", () -> real.energy(l), () -> g.energy);
        compare("blankets(" + l + ")", () -> real.blankets(l), () -> g.blankets);
        compare("coins(" + l + ")", () -> real.coins(l), () -> g.coins);
        compare("debt(" + l + ")", () -> real.debt(l), () -> g.debt);
        compare("watchesOf(" + l + ")", () -> real.watchesOf(l), () -> g.kept);
        compare("watchesToday(" + l + ")", () -> real.watchesToday(l), () -> g.keptToday);
        compare("rentToday(" + l + ")", () -> real.rentToday(l), () -> s.owed(g));
        compare("entriesOf(" + l + ")", () -> real.entriesOf(l),
                () -> s.roster.values().stream().mapToInt(o -> o == l ? 1 : 0).sum());
        compare("cost(" + l + ")", () -> real.cost(l), () -> s.cost(l));
        compare("obstacle(" + l + ")", () -> real.obstacle(l), () -> s.obstacle(l));
        for (int watch = 0; watch < 4; watch++) {
            int w = watch;
            compare("isExempt(" + l + ", " + w + ")", () -> real.isExempt(l, w), () -> s.exempt.contains(4 * l + w));
        }
        for (int i = -1; i <= g.name.length(); i++) {
            int index = i;
            compare("lodgerLetter(" + l + ", " + i + ")", () -> real.lodgerLetter(l, index),
                    () -> index < 0 || index >= g.name.length() ? -1 : (int) g.name.charAt(index));
        }
    }
}
