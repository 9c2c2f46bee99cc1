import java.util.List;

/** The sentences of "Terms" about actions, undo and exceptions. */
final class StateEdges {
    /** Each of the actions, with a change of something. */
    private static final Check.Call[] ACTIONS = {y -> y.addPrisoner(3), y -> y.promote(0, 0), y -> y.list(2, 9, true),
        y -> y.list(0, 0, false), y -> y.keepApart(0, 2, true), y -> y.keepApart(0, 1, false), y -> y.book(0, 0, 9999, 7),
        y -> y.cancel(0), y -> y.late(0, 59), y -> y.carry(9, true), y -> y.carry(1, false), y -> y.punish(0, 99),
        y -> y.wish(2, 2), y -> y.run(30), y -> y.set(0, 4)};

    /** Each of the actions, so that nothing becomes different. */
    private static final Check.Call[] IDLE = {y -> y.promote(0, 3), y -> y.list(0, 0, true), y -> y.list(0, 9, false),
        y -> y.keepApart(0, 1, true), y -> y.keepApart(0, 2, false), y -> y.late(1, 20), y -> y.carry(1, true),
        y -> y.carry(0, false), y -> y.punish(2, 5), y -> y.set(0, 2)};

    private static final Check.Call[] LOOKS = {VisitHours::errorPosition, y -> y.about(0), y -> y.prisoner(0, 0),
        y -> y.visitor(0, 0), y -> y.booking(0, 0), y -> y.line(0, 0), y -> y.wishAt(0), y -> y.setting(0),
        y -> y.whyNot(0, 0, 3, 0), y -> y.firstTime(0, 0), y -> y.coming(60, 0), y -> y.becomes(0),
        y -> y.runScript(1, 60030), y -> y.simulate(1, 60)};

    private StateEdges() {
    }

    private static void term(String words, Runnable checks) {
        Edge.test("Terms", words, checks);
    }

    static void all() {
        Edge.plain("Terms", "ACTIONS AND UNDO", "EXCEPTIONS", "The constants:",
                "Ahead of the calls `append`, `clearText`, `errorPosition`, `load` the interface says: ---- text.",
                "Ahead of the calls `about`, `prisoner`, `visitor`, `booking`, `line`, `wishAt`, `setting` the interface "
                + "says: ---- what there is.",
                "Ahead of the calls `addPrisoner`, `promote`, `list`, `keepApart`, `book`, `cancel`, `late`, `carry`, "
                + "`punish`, `wish`, `run`, `set`, `undo` the interface says: ---- actions.",
                "Ahead of the calls `whyNot`, `firstTime`, `coming`, `becomes` the interface says: ---- what would be;",
                "Ahead of the calls `runScript`, `simulate` the interface says: ---- scripts, simulations.",
                "Ahead of the calls `save`, `restore` the interface says: ---- save slots.");
        calls();
        actions();
        remembered();
        exceptions();
        namedFirst();
        nothingChanges();
    }

    private static int stillRemembered(VisitHours x) {
        int undos = 0;
        while (undos <= 20 && !Check.outcome(x, VisitHours::undo).equals("IllegalStateException")) {
            undos++;
        }
        return undos;
    }

    private static void calls() {
        Edge.test("What it is", "An object is used for at most 512 calls after it has been made;", () -> {
            VisitHours x = new VisitHours();
            x.addPrisoner(3);
            x.list(0, 0, true);
            for (int call = 3; call <= 510; call++) {
                x.run(1);
            }
            Check.is("the call 511", x.firstTime(0, 0), 8 * 508);
            Check.is("the call 512", x.coming(60, 0), 0);
            VisitHours texts = new VisitHours();
            for (int call = 1; call <= 511; call++) {
                Check.outcome(texts, y -> y.append('z'));
            }
            Check.is("the call 512 on a text", texts.clearText(), 120);
        });
        term("`NONE = -1`: There is no such result.", () -> {
            Check.is("NONE", VisitHours.NONE, -1);
            Check.is("no wish", new VisitHours().wishAt(0), -1);
            Check.is("no sign", Prisons.some().line(0, 99), -1);
            Check.is("no time", Prisons.some().firstTime(0, 9), -1);
        });
        term("these and all following methods up to the save slots change nothing.", () -> {
            for (int i = 0; i < LOOKS.length; i++) {
                int due = Integer.parseInt(Check.outcome(Prisons.remembering(), LOOKS[i]));
                Check.looks("look " + i, due, Prisons::remembering, LOOKS[i]);
            }
        });
    }

    private static void actions() {
        term("The methods in the section \"actions\" change the state, which consists of everything but the text and the "
                + "save slots.", () -> {
            String before = Check.visible(Prisons.some());
            for (int i = 0; i < ACTIONS.length; i++) {
                VisitHours x = Prisons.some();
                x.save(1);
                x.append('z');
                ACTIONS[i].on(x);
                Check.is("action " + i + " changes it", Check.visible(x).equals(before) ? 0 : 1, 1);
                x.undo();
                Check.same("undo of the action " + i, Check.visible(x), before);
                VisitHours kept = Prisons.some();
                kept.save(1);
                kept.append('z');
                ACTIONS[i].on(kept);
                kept.undo();
                Check.is("the text behind undo", kept.errorPosition(), kept.clearText() - 1);
                Check.is("the slot 1 behind undo", kept.restore(1), 3);
                Check.is("its bookings", kept.about(2), 2);
            }
        });
        term("Each call of one of them that does not throw an exception is an action, also if nothing becomes different "
                + "(undo is none).", () -> {
            for (int i = 0; i < IDLE.length; i++) {
                VisitHours x = Prisons.some();
                IDLE[i].on(x);
                Check.same("nothing is different " + i, Check.visible(x), Check.visible(Prisons.some()));
                Check.is("and one more is remembered " + i, x.undo(), 7);
            }
            for (int i = 0; i < ACTIONS.length; i++) {
                VisitHours x = Prisons.some();
                ACTIONS[i].on(x);
                Check.is("one more is remembered, action " + i, x.undo(), 7);
            }
            VisitHours x = Prisons.none();
            x.set(5, 1);
            x.set(5, 2);
            x.undo();
            Check.is("the second undo", x.undo(), 0);
            Check.is("takes back the first action", x.setting(5), 15);
        });
    }

    /** This many actions, each of which sets the setting 5 to its number. */
    private static VisitHours acted(int actions) {
        VisitHours x = new VisitHours();
        for (int i = 1; i <= actions; i++) {
            x.set(5, i);
        }
        return x;
    }

    private static void remembered() {
        term("Before each action, the state is remembered.", () -> {
            Check.is("none at first", stillRemembered(new VisitHours()), 0);
            VisitHours x = acted(3);
            for (int left = 2; left >= 0; left--) {
                Check.is("undo", x.undo(), left);
                Check.is("as before the action", x.setting(5), left == 0 ? 15 : left);
            }
        });
        term("At most 14 states are remembered;", () -> {
            Check.is("13 actions", stillRemembered(acted(13)), 13);
            Check.is("14 actions", stillRemembered(acted(14)), 14);
            Check.is("15 actions", stillRemembered(acted(15)), 14);
            Check.is("28 actions", stillRemembered(acted(28)), 14);
            Check.is("29 actions", stillRemembered(acted(29)), 14);
            Check.is("90 actions", stillRemembered(acted(90)), 14);
        });
        term("when one more is remembered, the oldest one is forgotten.", () -> {
            for (int actions = 14; actions <= 32; actions++) {
                VisitHours x = acted(actions);
                for (int undos = 1; undos <= 14; undos++) {
                    Check.is("undo of " + actions, x.undo(), 14 - undos);
                    Check.is("what was set", x.setting(5), actions == undos ? 15 : actions - undos);
                }
                Check.same("one more", Check.outcome(x, VisitHours::undo), "IllegalStateException");
                x.set(5, 99);
                Check.is("and a new action", x.undo(), 0);
            }
        });
        term("load and restore are not actions.", () -> {
            Check.is("load", stillRemembered(Check.loaded("man,0;run,1;may,0,0")), 0);
            VisitHours x = Prisons.some();
            x.restore(0);
            Check.is("restore", stillRemembered(x), 0);
            VisitHours saving = Prisons.some();
            saving.save(1);
            saving.append('a');
            saving.clearText();
            Check.is("save and the text are none, too", stillRemembered(saving), 7);
        });
    }

    private record Refused(String name, Class<?> due, Check.Call call) {
    }

    private static Refused index(String name, Check.Call call) {
        return new Refused(name, IndexOutOfBoundsException.class, call);
    }

    private static Refused argument(String name, Check.Call call) {
        return new Refused(name, IllegalArgumentException.class, call);
    }

    private static Refused state(String name, Check.Call call) {
        return new Refused(name, IllegalStateException.class, call);
    }

    /** What is refused in the prison with something of everything: three prisoners, two bookings, the day 3. */
    private static final List<Refused> NO_SUCH = List.of(
            index("prisoner", y -> y.prisoner(3, 0)), index("visitor", y -> y.visitor(10, 0)),
            index("booking", y -> y.booking(2, 0)), index("line", y -> y.line(2, 0)),
            index("promote", y -> y.promote(3, 0)), index("list, no prisoner", y -> y.list(3, 0, true)),
            index("list, no visitor", y -> y.list(0, 10, true)), index("keepApart, p", y -> y.keepApart(3, 0, true)),
            index("keepApart, q", y -> y.keepApart(0, 3, true)), index("book, no prisoner", y -> y.book(3, 0, 3, 0)),
            index("book, no visitor", y -> y.book(0, 10, 3, 0)), index("cancel", y -> y.cancel(2)),
            index("late", y -> y.late(2, 0)), index("carry", y -> y.carry(10, true)),
            index("punish", y -> y.punish(3, 0)), index("wish, no prisoner", y -> y.wish(3, 0)),
            index("wish, no visitor", y -> y.wish(0, 10)), index("whyNot, no prisoner", y -> y.whyNot(3, 0, 3, 0)),
            index("whyNot, no visitor", y -> y.whyNot(0, 10, 3, 0)), index("firstTime, no prisoner", y -> y.firstTime(3, 0)),
            index("firstTime, no visitor", y -> y.firstTime(0, 10)), index("becomes", y -> y.becomes(2)),
            index("save 2", y -> y.save(2)), index("save -1", y -> y.save(-1)),
            index("restore 2", y -> y.restore(2)), index("restore -1", y -> y.restore(-1)));

    private static final List<Refused> NO_ARGUMENT = List.of(
            argument("append", y -> y.append(256)), argument("about", y -> y.about(11)),
            argument("prisoner", y -> y.prisoner(0, 8)), argument("visitor", y -> y.visitor(0, 5)),
            argument("booking", y -> y.booking(0, 6)), argument("line", y -> y.line(0, -1)),
            argument("wishAt", y -> y.wishAt(-1)), argument("setting", y -> y.setting(6)),
            argument("addPrisoner", y -> y.addPrisoner(4)), argument("promote", y -> y.promote(0, 4)),
            argument("book, the day 2", y -> y.book(0, 0, 2, 0)), argument("book, the hour 8", y -> y.book(0, 0, 3, 8)),
            argument("late", y -> y.late(0, 60)), argument("punish", y -> y.punish(0, 100)),
            argument("run", y -> y.run(31)), argument("set", y -> y.set(0, 5)),
            argument("whyNot, the day 2", y -> y.whyNot(0, 0, 2, 0)), argument("whyNot, hour 8", y -> y.whyNot(0, 0, 3, 8)),
            argument("coming, 61", y -> y.coming(61, 0)), argument("coming, what 5", y -> y.coming(60, 5)),
            argument("runScript, 4", y -> y.runScript(4, 0)), argument("runScript, -1", y -> y.runScript(3, -1)),
            argument("simulate", y -> y.simulate(0, 61)));

    private static final List<Refused> NOT_POSSIBLE = List.of(
            state("keepApart", y -> y.keepApart(0, 0, true)), state("book", y -> y.book(0, 0, 3, 0)),
            state("wish", y -> y.wish(0, 9)), state("restore", y -> y.restore(1)));

    private static void areRefused(List<Refused> calls) {
        for (Refused refused : calls) {
            Check.same(refused.name, Check.outcome(Prisons.remembering(), refused.call), refused.due.getSimpleName());
        }
    }

    private static void exceptions() {
        term("IndexOutOfBoundsException means that a prisoner, a visitor or a booking does not exist, or that a save slot "
                + "is not 0 or 1.", () -> areRefused(NO_SUCH));
        term("IllegalArgumentException means that another argument is out of its range.", () -> areRefused(NO_ARGUMENT));
        term("IllegalStateException means what the method says.", () -> {
            areRefused(NOT_POSSIBLE);
            Check.same("append", Check.outcome(Prisons.written(), y -> y.append('z')), "IllegalStateException");
            Check.same("load", Check.outcome(Prisons.none(), VisitHours::load), "IllegalStateException");
            Check.same("addPrisoner", Check.outcome(Prisons.eight(), y -> y.addPrisoner(0)), "IllegalStateException");
            Check.same("wish", Check.outcome(Prisons.wishing(), y -> y.wish(0, 0)), "IllegalStateException");
            Check.same("undo", Check.outcome(Prisons.none(), VisitHours::undo), "IllegalStateException");
        });
    }

    private static void namedFirst() {
        term("If several exceptions apply to a call, the one that its description names first is thrown.", () -> {
            Check.argument("append", Prisons::written, y -> y.append(256));
            Check.argument("addPrisoner", Prisons::eight, y -> y.addPrisoner(4));
            List<Refused> calls = List.of(index("prisoner", y -> y.prisoner(3, 8)), index("visitor", y -> y.visitor(10, 5)),
                    index("booking", y -> y.booking(2, 6)), index("line", y -> y.line(2, -1)),
                    index("promote", y -> y.promote(3, 4)), index("keepApart", y -> y.keepApart(3, 3, true)),
                    index("book, no prisoner", y -> y.book(3, 0, 2, 8)), index("book, no visitor", y -> y.book(0, 10, 2, 8)),
                    argument("book, the day", y -> y.book(0, 9, 2, 0)), argument("book, the hour", y -> y.book(0, 9, 3, 8)),
                    argument("book, the day 10000", y -> y.book(0, 9, 10000, 0)), index("late", y -> y.late(2, 60)),
                    index("punish", y -> y.punish(3, 100)), index("whyNot, no prisoner", y -> y.whyNot(3, 0, 2, 8)),
                    index("whyNot, no visitor", y -> y.whyNot(0, 10, 2, 8)), index("restore", y -> y.restore(2)));
            for (Refused refused : calls) {
                Check.refuses(refused.name, refused.due, Prisons::remembering, refused.call);
            }
            Check.index("wish of no prisoner, with 10", Prisons::wishing, y -> y.wish(1, 9));
            Check.index("wish of no visitor, with 10", Prisons::wishing, y -> y.wish(0, 10));
            Check.index("book with 24 bookings", Prisons::full, y -> y.book(8, 0, 3, 0));
            Check.argument("book with 24 bookings, hour 8", Prisons::full, y -> y.book(0, 0, 3, 8));
        });
    }

    private static void nothingChanges() {
        term("A call that throws an exception changes nothing.", () -> {
            for (List<Refused> calls : List.of(NO_SUCH, NO_ARGUMENT, NOT_POSSIBLE)) {
                for (Refused refused : calls) {
                    Check.refuses(refused.name, refused.due, Prisons::remembering, refused.call);
                }
            }
            VisitHours x = acted(14);
            for (int i = 0; i < 40; i++) {
                Check.outcome(x, y -> y.set(5, 100));
            }
            Check.is("14 states behind 40 calls", stillRemembered(x), 14);
            Check.is("the oldest of them", x.setting(5), 15);
        });
    }
}
