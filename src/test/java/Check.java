import java.util.function.Supplier;

/** What the tests share: comparing answers, exceptions, and all that can be seen of an object. */
final class Check {
    /** A call of the face. */
    interface Call {
        int on(VisitHours x);
    }

    private static int checks = 0;
    private static int wrong = 0;

    private Check() {
    }

    static void is(String what, long got, long due) {
        checks++;
        if (got != due) {
            wrong++;
            System.out.println(what + " answered " + got + ", due is " + due);
        }
    }

    static void same(String what, String got, String due) {
        checks++;
        if (!got.equals(due)) {
            wrong++;
            System.out.println(what + " is\n  " + got + "\ndue is\n  " + due);
        }
    }

    /** The call throws exactly this, and nothing becomes different. */
    static void refuses(String what, Class<?> due, Supplier<VisitHours> maker, Call call) {
        VisitHours x = maker.get();
        same(what, outcome(x, call), due.getSimpleName());
        same(what + ": what there is then", everything(x), everything(maker.get()));
    }

    static void index(String what, Supplier<VisitHours> maker, Call call) {
        refuses(what, IndexOutOfBoundsException.class, maker, call);
    }

    static void argument(String what, Supplier<VisitHours> maker, Call call) {
        refuses(what, IllegalArgumentException.class, maker, call);
    }

    static void state(String what, Supplier<VisitHours> maker, Call call) {
        refuses(what, IllegalStateException.class, maker, call);
    }

    /** The call answers this and nothing becomes different. */
    static void looks(String what, int due, Supplier<VisitHours> maker, Call call) {
        VisitHours x = maker.get();
        same(what, outcome(x, call), Integer.toString(due));
        same(what + ": what there is then", everything(x), everything(maker.get()));
    }

    /** The answer of a call, or the name of what it throws. */
    static String outcome(VisitHours x, Call call) {
        try {
            return Integer.toString(call.on(x));
        } catch (RuntimeException e) {
            return e.getClass().getSimpleName();
        }
    }

    /** All that can be seen of an object, with the states it remembers and its save slots; x is used up then. */
    static String everything(VisitHours x) {
        StringBuilder all = new StringBuilder(visible(x));
        all.append(" error ").append(x.errorPosition()).append(" length ").append(x.clearText());
        while (true) {
            String undone = outcome(x, VisitHours::undo);
            all.append(" undo ").append(undone).append(" today ").append(x.about(1));
            if (!Character.isDigit(undone.charAt(0))) {
                break;
            }
        }
        for (int slot = 0; slot < 2; slot++) {
            int chosen = slot;
            all.append(" slot ").append(outcome(x, y -> y.restore(chosen))).append(' ').append(x.about(2));
        }
        return all.toString();
    }

    /** What can be seen of the state. */
    static String visible(VisitHours x) {
        StringBuilder all = new StringBuilder("about");
        for (int what = 0; what <= 10; what++) {
            all.append(' ').append(x.about(what));
        }
        all.append(" settings");
        for (int what = 0; what <= 5; what++) {
            all.append(' ').append(x.setting(what));
        }
        for (int p = 0; p < x.about(0); p++) {
            all.append(" p").append(p);
            for (int what = 0; what <= 7; what++) {
                all.append(' ').append(x.prisoner(p, what));
            }
        }
        for (int v = 0; v < 10; v++) {
            all.append(" v").append(v);
            for (int what = 0; what <= 2; what++) {
                all.append(' ').append(x.visitor(v, what));
            }
        }
        for (int k = 0; k < x.about(2); k++) {
            all.append(" b").append(k);
            for (int what = 0; what <= 5; what++) {
                all.append(' ').append(x.booking(k, what));
            }
        }
        all.append(" wishes");
        for (int k = 0; k <= x.about(3); k++) {
            all.append(' ').append(x.wishAt(k));
        }
        return all.toString();
    }

    static String lineOf(VisitHours x, int k) {
        StringBuilder line = new StringBuilder();
        for (int i = 0; x.line(k, i) != VisitHours.NONE; i++) {
            line.append((char) x.line(k, i));
        }
        return line.toString();
    }

    static VisitHours withText(String text) {
        VisitHours x = new VisitHours();
        write(x, text);
        return x;
    }

    static void write(VisitHours x, String text) {
        for (int i = 0; i < text.length(); i++) {
            x.append(text.charAt(i));
        }
    }

    static VisitHours loaded(String text) {
        VisitHours x = withText(text);
        x.load();
        return x;
    }

    /** Ends the test. */
    static void end() {
        System.out.println(checks + " checks, " + wrong + " wrong");
        if (wrong != 0 || checks == 0) {
            System.exit(1);
        }
    }
}
