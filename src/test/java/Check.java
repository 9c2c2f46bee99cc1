import java.util.function.Supplier;

/** What the tests share: comparing answers, exceptions, and all that can be seen of an object. */
final class Check {
    /** A call of the face. */
    interface Call {
        int on(VisitHours x);
    }

    private static int checks = 0;
    private static int wrong = 0;
    /** What the checks at hand are about; told ahead of each that is wrong. */
    private static String title = "";

    private Check() {
    }

    /** Begins checks about something else. */
    static void about(String newTitle) {
        title = newTitle + ": ";
    }

    static int count() {
        return checks;
    }

    static void is(String what, long got, long due) {
        checks++;
        if (got != due) {
            wrong++;
            System.out.println(title + what + " answered " + got + ", due is " + due);
        }
    }

    static void same(String what, String got, String due) {
        checks++;
        if (!got.equals(due)) {
            wrong++;
            System.out.println(title + what + " is\n  " + got + "\ndue is\n  " + due);
        }
    }

    /** The call throws exactly this, and nothing becomes different. */
    static void refuses(String what, Class<?> due, Supplier<VisitHours> maker, Call call) {
        same(what, outcome(maker.get(), call), due.getSimpleName());
        changesNothing(what, maker, call);
    }

    static void index(String what, Supplier<VisitHours> maker, Call call) {
        refuses(what, IndexOutOfBoundsException.class, maker, call);
    }

    static void argument(String what, Supplier<VisitHours> maker, Call call) {
        refuses(what, IllegalArgumentException.class, maker, call);
    }

    static void state(String what, Supplier<VisitHours> maker, Call call) {
        refuses(what, IllegalStateException.class, maker, call);
    }

    /** The call answers this and nothing becomes different. */
    static void looks(String what, int due, Supplier<VisitHours> maker, Call call) {
        same(what, outcome(maker.get(), call), Integer.toString(due));
        changesNothing(what, maker, call);
    }

    private static void changesNothing(String what, Supplier<VisitHours> maker, Call call) {
        String then = everything(() -> {
            VisitHours x = maker.get();
            outcome(x, call);
            return x;
        });
        same(what + ": what there is then", then, everything(maker));
    }

    /** The answer of a call, or the name of what it throws. */
    static String outcome(VisitHours x, Call call) {
        try {
            return Integer.toString(call.on(x));
        } catch (RuntimeException e) {
            return e.getClass().getSimpleName();
        }
    }

    /**
     * All that can be seen of what the maker makes: the state, each state that is remembered, the save slots and the
     * text. Each part is asked of an object of its own, as one object is good for 512 calls alone.
     */
    static String everything(Supplier<VisitHours> maker) {
        StringBuilder all = new StringBuilder(visible(maker.get()));
        String undone = "0";
        for (int undos = 1; undos <= 15 && !undone.startsWith("Illegal"); undos++) {
            VisitHours x = maker.get();
            for (int i = 0; i < undos; i++) {
                undone = outcome(x, VisitHours::undo);
            }
            all.append("\n  undo ").append(undone).append(' ').append(visible(x));
        }
        for (int slot = 0; slot < 2; slot++) {
            int chosen = slot;
            VisitHours x = maker.get();
            all.append("\n  slot ").append(outcome(x, y -> y.restore(chosen))).append(' ').append(visible(x));
        }
        VisitHours text = maker.get();
        all.append("\n  error ").append(text.errorPosition()).append(" load ").append(outcome(text, VisitHours::load));
        all.append(' ').append(visible(text)).append(" length ").append(text.clearText());
        return all.toString();
    }

    /** What can be seen of the state. */
    static String visible(VisitHours x) {
        StringBuilder all = new StringBuilder("about");
        for (int what = 0; what <= 10; what++) {
            all.append(' ').append(x.about(what));
        }
        all.append(" settings");
        for (int what = 0; what <= 5; what++) {
            all.append(' ').append(x.setting(what));
        }
        for (int p = 0; p < x.about(0); p++) {
            all.append(" p").append(p);
            for (int what = 0; what <= 7; what++) {
                all.append(' ').append(x.prisoner(p, what));
            }
        }
        for (int v = 0; v < 10; v++) {
            all.append(" v").append(v);
            for (int what = 0; what <= 2; what++) {
                all.append(' ').append(x.visitor(v, what));
            }
        }
        for (int k = 0; k < x.about(2); k++) {
            all.append(" b").append(k);
            for (int what = 0; what <= 5; what++) {
                all.append(' ').append(x.booking(k, what));
            }
        }
        all.append(" wishes");
        for (int k = 0; k <= x.about(3); k++) {
            all.append(' ').append(x.wishAt(k));
        }
        return all.toString();
    }

    static String lineOf(VisitHours x, int k) {
        StringBuilder line = new StringBuilder();
        for (int i = 0; x.line(k, i) != VisitHours.NONE; i++) {
            line.append((char) x.line(k, i));
        }
        return line.toString();
    }

    static VisitHours withText(String text) {
        VisitHours x = new VisitHours();
        write(x, text);
        return x;
    }

    static void write(VisitHours x, String text) {
        for (int i = 0; i < text.length(); i++) {
            x.append(text.charAt(i));
        }
    }

    static VisitHours loaded(String text) {
        VisitHours x = withText(text);
        x.load();
        return x;
    }

    /** Ends the test. */
    static void end() {
        System.out.println(checks + " checks, " + wrong + " wrong");
        if (wrong != 0 || checks == 0) {
            System.exit(1);
        }
    }
}
