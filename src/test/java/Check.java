/** What the tests share: comparing answers, expecting exceptions, and putting texts into the input buffer. */
final class Check {
    interface Call {
        Object run();
    }

    private static int wrong = 0;
    private static int done = 0;

    private Check() {
    }

    static void same(String what, Object due, Object got) {
        done++;
        if (!String.valueOf(due).equals(String.valueOf(got))) {
            wrong++;
            System.out.println(what + ": answered " + got + ", due is " + due);
        }
    }

    static void is(String what, long due, long got) {
        same(what, due, got);
    }

    static void is(String what, boolean due, boolean got) {
        same(what, due, got);
    }

    /** The exception itself is asked for, not one of its subclasses: those would come from the machine. */
    static void fails(String what, Class<? extends RuntimeException> due, Call call) {
        done++;
        try {
            Object got = call.run();
            wrong++;
            System.out.println(what + ": answered " + got + ", due is " + due.getName());
        } catch (RuntimeException e) {
            if (e.getClass() != due) {
                wrong++;
                System.out.println(what + ": threw " + e + ", due is " + due.getName());
            }
        }
    }

    static void noIndex(String what, Call call) {
        fails(what, IndexOutOfBoundsException.class, call);
    }

    static void noArgument(String what, Call call) {
        fails(what, IllegalArgumentException.class, call);
    }

    static void noState(String what, Call call) {
        fails(what, IllegalStateException.class, call);
    }

    static void noElement(String what, Call call) {
        fails(what, java.util.NoSuchElementException.class, call);
    }

    /** Appends the text, filled up with spaces to whole calls, and cuts the filling off again. */
    static void type(SnowPlough plough, String text) {
        int before = plough.append(0x20202020, 0x20202020, 0x20202020, 0x20202020, 0x20202020) - 20;
        plough.truncate(before);
        for (int i = 0; i < text.length(); i += 20) {
            plough.append(word(text, i), word(text, i + 4), word(text, i + 8), word(text, i + 12), word(text, i + 16));
        }
        plough.truncate(before + text.length());
    }

    private static int word(String text, int from) {
        int word = 0;
        for (int i = from; i < from + 4; i++) {
            word = word << 8 | (i < text.length() ? text.charAt(i) & 255 : 32);
        }
        return word;
    }

    static int load(SnowPlough plough, String text) {
        type(plough, text);
        return plough.load();
    }

    static SnowPlough loaded(String text) {
        SnowPlough plough = new SnowPlough();
        int roads = load(plough, text);
        if (roads == SnowPlough.PARSE_ERROR) {
            same("load of " + text, "no error", plough.errorCode() + " at " + plough.errorPosition());
        }
        return plough;
    }

    static int find(SnowPlough plough, boolean isRoad, String name) {
        type(plough, name);
        return plough.find(isRoad);
    }

    static String output(SnowPlough plough) {
        StringBuilder text = new StringBuilder();
        int length = plough.writeNetwork();
        for (int i = 0; i < length; i++) {
            text.append((char) plough.outputByte(i));
        }
        return text.toString();
    }

    static void end(String test) {
        System.out.println(test + ": " + done + " checks, " + wrong + " wrong");
        System.exit(wrong == 0 && done > 0 ? 0 : 1);
    }
}
