/** What the tests share: counted comparisons, and texts put into an object. */
final class Check {
    static int passed;
    static int failed;

    private Check() {
    }

    static void that(String what, boolean holds) {
        if (holds) {
            passed++;
        } else {
            failed++;
            System.out.println("FAILED: " + what);
        }
    }

    static void same(String what, long got, long due) {
        that(what + " answered " + got + ", due is " + due, got == due);
    }

    static void same(String what, double got, double due) {
        that(what + " answered " + got + ", due is " + due, Double.compare(got, due) == 0);
    }

    static void same(String what, String got, String due) {
        that(what + " answered " + got + ", due is " + due, got.equals(due));
    }

    static void refuses(String what, Class<? extends RuntimeException> due, Runnable call) {
        Class<?> got = null;
        try {
            call.run();
        } catch (RuntimeException thrown) {
            got = thrown.getClass();
        }
        that(what + " threw " + got + ", due is " + due, got == due);
    }

    static void noState(String what, Runnable call) {
        refuses(what, IllegalStateException.class, call);
    }

    static void noIndex(String what, Runnable call) {
        refuses(what, IndexOutOfBoundsException.class, call);
    }

    static void noArgument(String what, Runnable call) {
        refuses(what, IllegalArgumentException.class, call);
    }

    /** Appends a text, filled up with spaces to whole calls. */
    static void feed(WatchLodgers lodgers, String text) {
        int[] words = new int[5];
        for (int from = 0; from < text.length(); from += 20) {
            for (int word = 0; word < 5; word++) {
                words[word] = 0;
                for (int at = from + 4 * word; at < from + 4 * word + 4; at++) {
                    words[word] = words[word] << 8 | (at < text.length() ? text.charAt(at) : ' ');
                }
            }
            lodgers.append(words[0], words[1], words[2], words[3], words[4]);
        }
    }

    static int load(WatchLodgers lodgers, String text) {
        feed(lodgers, text);
        return lodgers.load(text.length());
    }

    static WatchLodgers loaded(String text) {
        WatchLodgers lodgers = new WatchLodgers();
        try {
            load(lodgers, text);
        } catch (IllegalArgumentException refused) {
            that("'" + text + "' is refused with " + lodgers.parseError() + " at " + lodgers.errorPosition(), false);
        }
        return lodgers;
    }

    /** The text is refused; the mark ^ stands before the token that is at fault and is no part of the text. */
    static void textError(int code, String marked) {
        int position = marked.indexOf('^');
        String text = marked.substring(0, position) + marked.substring(position + 1);
        WatchLodgers lodgers = new WatchLodgers();
        noArgument("'" + marked + "'", () -> load(lodgers, text));
        same("parseError of '" + marked + "'", lodgers.parseError(), code);
        same("errorPosition of '" + marked + "'", lodgers.errorPosition(), position);
    }

    static String written(WatchLodgers lodgers, int length) {
        StringBuilder text = new StringBuilder();
        for (int index = 0; index < length; index++) {
            text.append((char) lodgers.textByte(index));
        }
        return text.toString();
    }
}
