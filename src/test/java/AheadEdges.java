/** The sentences of the promises 26 to 29, 32 and 33. */
final class AheadEdges {
    private static final int NONE = VisitHours.NONE;

    private AheadEdges() {
    }

    static void all() {
        whyNot();
        whyNotRefused();
        firstTime();
        coming();
        comingNumbers();
        becomes();
        becomesRefused();
        save();
        restore();
    }

    /** Today is the day 1; the visitor 0 has a ban up to 15, the prisoner 0 has lost privileges up to 8. */
    private static VisitHours found() {
        VisitHours x = Prisons.searched(2);
        x.carry(0, true);
        x.book(0, 0, 0, 0);
        x.run(1);
        return x;
    }

    private static void whyNot() {
        Edge.plain("Promise 26", "Tells why a booking is not possible.", "`p`: prisoner", "`v`: visitor");
        Edge.test("Promise 26", "`day`: today to 9999", () -> {
            Edge.inside("day", 3, 9999, Prisons::some, (y, day) -> y.whyNot(0, 1, day, 7));
            Check.is("today", Prisons.some().whyNot(0, 1, 3, 7), 0);
            Check.is("the last day", Prisons.some().whyNot(0, 1, 9999, 7), 0);
        });
        Edge.test("Promise 26", "`hour`: 0 to 7", () ->
            Edge.inside("hour", 0, 7, Prisons::some, (y, hour) -> y.whyNot(0, 1, 3, hour)));
        Edge.test("Promise 26", "Returns 0 if it is possible, otherwise the first of the reasons 1 to 8 that applies.", () -> {
            Check.looks("possible", 0, Prisons::some, y -> y.whyNot(0, 1, 3, 1));
            Check.looks("reason 1", 1, Prisons::some, y -> y.whyNot(0, 2, 3, 0));
            Check.looks("reason 2", 2, Prisons::some, y -> y.whyNot(2, 2, 7, 0));
            Check.looks("reason 2 ahead of 3", 2, AheadEdges::found, y -> y.whyNot(0, 0, 7, 0));
            Check.looks("reason 3", 3, AheadEdges::found, y -> y.whyNot(0, 0, 8, 0));
            Check.looks("reason 4", 4, () -> Check.loaded("man,0;may,0,0;book,0,0,0,0"), y -> y.whyNot(0, 0, 6, 0));
            Check.looks("reason 4 ahead of 5", 4, () -> Check.loaded("man,0;may,0,0;book,0,0,0,0"),
                    y -> y.whyNot(0, 0, 0, 0));
            Check.looks("reason 5", 5, Prisons::some, y -> y.whyNot(0, 1, 3, 0));
            Check.looks("reason 5 ahead of 6", 5, Prisons::some, y -> y.whyNot(0, 1, 4, 0));
            Check.looks("reason 6", 6, Prisons::some, y -> y.whyNot(0, 0, 4, 0));
            Check.looks("reason 7", 7, () -> Prisons.taken(0, 1), y -> y.whyNot(2, 2, 0, 0));
            Check.looks("reason 7 ahead of 8", 7, Prisons::full, y -> y.whyNot(7, 7, 0, 0));
            Check.looks("reason 8", 8, Prisons::full, y -> y.whyNot(7, 7, 0, 4));
        });
    }

    private static void whyNotRefused() {
        Edge.test("Promise 26", "Throws `IndexOutOfBoundsException` if there is no such prisoner or visitor", () -> {
            Edge.inside("prisoner", 0, 2, Prisons::some, (y, p) -> y.whyNot(p, 0, 3, 0));
            Edge.noIndex("prisoner", 0, 2, Prisons::some, (y, p) -> y.whyNot(p, 0, 3, 0));
            Edge.noIndex("prisoner of 8", 0, 7, Prisons::eight, (y, p) -> y.whyNot(p, 0, 3, 0));
            Edge.noIndex("prisoner of none", 0, -1, VisitHours::new, (y, p) -> y.whyNot(p, 0, 3, 0));
            Edge.inside("visitor", 0, 9, Prisons::some, (y, v) -> y.whyNot(2, v, 3, 0));
            Edge.noIndex("visitor", 0, 9, Prisons::some, (y, v) -> y.whyNot(2, v, 3, 0));
            Edge.noIndex("prisoner, wrong day and hour", 0, 2, Prisons::some, (y, p) -> y.whyNot(p, 0, 2, 8));
            Edge.noIndex("visitor, wrong day and hour", 0, 9, Prisons::some, (y, v) -> y.whyNot(0, v, 10000, -1));
        });
        Edge.test("Promise 26", "Throws `IllegalArgumentException` if day or hour is out of range", () -> {
            Edge.noArgument("day", 3, 9999, Prisons::some, (y, day) -> y.whyNot(0, 1, day, 7));
            Edge.noArgument("day, not on the list", 3, 9999, Prisons::some, (y, day) -> y.whyNot(0, 9, day, 7));
            Edge.noArgument("hour", 0, 7, Prisons::some, (y, hour) -> y.whyNot(0, 1, 3, hour));
            Edge.noArgument("hour, not on the list", 0, 7, Prisons::some, (y, hour) -> y.whyNot(0, 9, 3, hour));
        });
    }

    /** The prisoner 2 has privileges from the day 59 on, of which so many hours are taken. */
    private static VisitHours lastDay(int hours) {
        VisitHours x = Prisons.taken(59, hours);
        x.punish(2, 59);
        return x;
    }

    private static VisitHours lost(int days) {
        VisitHours x = Prisons.some();
        x.punish(0, days);
        return x;
    }

    private static void firstTime() {
        Edge.plain("Promise 27", "Finds the first time for a visit.", "`p`: prisoner", "`v`: visitor");
        Edge.test("Promise 27", "Returns 8 * (the day) + (the hour) of the first time for which a booking is possible, from the "
                + "hour 0 of today to the last one of the day today and 59; NONE if there is none.", () -> {
            Check.looks("the hour 0 of today", 0, () -> Prisons.open(1), y -> y.firstTime(0, 0));
            Check.looks("the hour 0 of the day 3", 24, () -> Check.loaded("man,0;may,0,0;run,3"), y -> y.firstTime(0, 0));
            Check.looks("the hour 1 of today", 25, Prisons::some, y -> y.firstTime(0, 0));
            Check.looks("the hour 7 of today", 7, () -> Prisons.taken(0, 7), y -> y.firstTime(2, 2));
            Check.looks("the next day", 8, () -> Prisons.taken(0, 8), y -> y.firstTime(2, 2));
            Check.looks("the hour 0 of the day 59", 8 * 59, () -> lastDay(0), y -> y.firstTime(2, 2));
            Check.looks("the hour 7 of the day 59", 8 * 59 + 7, () -> lastDay(7), y -> y.firstTime(2, 2));
            Check.looks("no hour of the day 59", NONE, () -> lastDay(8), y -> y.firstTime(2, 2));
            Check.looks("today and 59, the day 62", 8 * 62, () -> lost(59), y -> y.firstTime(0, 0));
            Check.looks("today and 60", NONE, () -> lost(60), y -> y.firstTime(0, 0));
            Check.looks("not on the list", NONE, Prisons::some, y -> y.firstTime(0, 9));
            Check.looks("24 bookings", NONE, Prisons::full, y -> y.firstTime(0, 0));
            Check.looks("behind the ban and what is lost", 8 * 15, AheadEdges::found, y -> y.firstTime(0, 0));
            Check.looks("the next week", 8 * 7, () -> Check.loaded("man,0;may,0,0;book,0,0,6,7"), y -> y.firstTime(0, 0));
        });
        Edge.test("Promise 27", "Throws `IndexOutOfBoundsException` if there is no such prisoner or visitor", () -> {
            Edge.inside("prisoner", 0, 2, Prisons::some, (y, p) -> y.firstTime(p, 0));
            Edge.noIndex("prisoner", 0, 2, Prisons::some, (y, p) -> y.firstTime(p, 0));
            Edge.noIndex("prisoner of 8", 0, 7, Prisons::eight, (y, p) -> y.firstTime(p, 0));
            Edge.noIndex("prisoner of none", 0, -1, VisitHours::new, (y, p) -> y.firstTime(p, 0));
            Edge.inside("visitor", 0, 9, Prisons::some, (y, v) -> y.firstTime(2, v));
            Edge.noIndex("visitor", 0, 9, Prisons::some, (y, v) -> y.firstTime(2, v));
        });
    }

    /** Today is the day 2; bookings of today, of the day 60, which is the 59th from now, and of the days 61 and 62. */
    private static VisitHours spread() {
        VisitHours x = Prisons.unsearched(1);
        x.run(2);
        x.book(0, 0, 2, 0);
        x.book(0, 0, 60, 7);
        x.book(0, 0, 61, 7);
        x.book(0, 0, 62, 0);
        return x;
    }

    private static void coming() {
        Edge.plain("Promise 28", "Tells what days to come bring.");
        Edge.test("Promise 28", "`n`: 1 to 60: so many days, from today on", () -> {
            Edge.inside("days", 1, 60, Prisons::some, (y, n) -> y.coming(n, 0));
            Check.is("today", spread().coming(1, 0), 1);
            Check.is("58 days", spread().coming(58, 0), 1);
            Check.is("59 days", spread().coming(59, 0), 2);
            Check.is("60 days", spread().coming(60, 0), 3);
        });
        Edge.test("Promise 28", "Returns that number, if nothing else is done.", () -> {
            for (int what = 0; what <= 4; what++) {
                for (int n = 1; n <= 60; n++) {
                    VisitHours x = LookEdges.week();
                    int before = what == 4 ? 0 : x.about(4 + what);
                    int answer = x.coming(n, what);
                    x.run(Math.min(n, 30));
                    if (n > 30) {
                        x.run(n - 30);
                    }
                    Check.is("coming(" + n + ", " + what + ")", answer, x.about(what == 4 ? 3 : 4 + what) - before);
                }
            }
            Check.looks("it changes nothing", 24, Prisons::full, y -> y.coming(60, 0));
        });
        Edge.test("Promise 28", "Throws `IllegalArgumentException` if n is out of range, or what is not 0 to 4", () -> {
            Edge.noArgument("days", 1, 60, Prisons::some, (y, n) -> y.coming(n, 0));
            Edge.inside("what", 0, 4, Prisons::some, (y, what) -> y.coming(1, what));
            Edge.noArgument("what", 0, 4, Prisons::some, (y, what) -> y.coming(60, what));
            Edge.noArgument("both", 1, 60, Prisons::some, (y, n) -> y.coming(n, 5));
        });
    }

    /** Held, found, refused, too late, two wishes: one of the rank 0, and one of a prisoner who has lost privileges. */
    private static VisitHours mixed() {
        VisitHours x = Prisons.open(4);
        x.promote(0, 0);
        x.carry(2, true);
        x.book(0, 0, 0, 0);
        x.book(1, 1, 0, 1);
        x.book(2, 2, 0, 2);
        x.book(2, 3, 0, 3);
        x.book(1, 4, 0, 4);
        x.late(4, 59);
        x.punish(3, 8);
        x.wish(0, 5);
        x.wish(3, 6);
        return x;
    }

    private static void comingNumbers() {
        Edge.test("Promise 28", "`what`: 0: the visits held in them; 1: those refused; 2: those at which something is found; 3: "
                + "those who are too late; 4: the wishes that wait then", () -> {
            int[][] due = {{1, 2, 1, 1, 1, 2}, {2, 2, 1, 1, 1, 1}, {3, 2, 1, 1, 1, 0}, {7, 2, 1, 1, 1, 0}, {8, 3, 1, 1, 1, 0},
                {9, 4, 1, 1, 1, 0}, {60, 4, 1, 1, 1, 0}};
            for (int[] numbers : due) {
                for (int what = 0; what <= 4; what++) {
                    Check.is("coming(" + numbers[0] + ", " + what + ")", mixed().coming(numbers[0], what), numbers[what + 1]);
                    Check.is("nobody there", new VisitHours().coming(numbers[0], what), 0);
                }
            }
            VisitHours x = mixed();
            x.run(1);
            Check.is("what was found before does not count", x.coming(60, 2), 0);
            Check.is("what was held before does not count", x.coming(60, 0), 2);
            Check.is("ten wishes, of the rank 0: nine wait", Prisons.wishing().coming(1, 4), 9);
            Check.is("one of them becomes a booking of the next week", Prisons.wishing().coming(2, 4), 8);
        });
    }

    private static void becomes() {
        Edge.plain("Promise 29", "Tells what becomes of a booking.", "`k`: booking");
        Edge.test("Promise 29", "Returns what becomes of it, if nothing else is done (wishes become bookings meanwhile): 0: it is "
                + "held; 1: refused; 2: something is found; 3: too late.", () -> {
            int[] due = {0, 0, 2, 1, 3};
            for (int k = 0; k < due.length; k++) {
                int booking = k;
                Check.looks("booking " + k, due[k], AheadEdges::mixed, y -> y.becomes(booking));
            }
            VisitHours x = Prisons.open(2);
            x.carry(0, true);
            x.book(0, 0, 3, 0);
            Check.is("the first who is counted", x.becomes(0), 0);
            x.wish(1, 1);
            Check.is("the second, behind a wish", x.becomes(0), 0);
            x.wish(1, 1);
            Check.is("the third, behind two wishes", x.becomes(0), 2);
            x.wish(1, 1);
            Check.is("the fourth", x.becomes(0), 0);
            VisitHours today = Prisons.open(2);
            today.carry(0, true);
            today.book(0, 0, 0, 7);
            today.wish(1, 1);
            today.wish(1, 1);
            Check.is("wishes of the very day, ahead of it", today.becomes(0), 2);
        });
    }

    private static void becomesRefused() {
        Edge.test("Promise 29", "Throws `IndexOutOfBoundsException` if there is no such booking", () -> {
            Edge.inside("booking", 0, 1, Prisons::some, VisitHours::becomes);
            Edge.noIndex("booking", 0, 1, Prisons::some, VisitHours::becomes);
            Edge.inside("booking of 24", 0, 23, Prisons::full, VisitHours::becomes);
            Edge.noIndex("booking of 24", 0, 23, Prisons::full, VisitHours::becomes);
            Edge.noIndex("booking of none", 0, -1, VisitHours::new, VisitHours::becomes);
        });
        Edge.test("Promise 29", "Throws `IllegalStateException` if its day is later than today and 59", () -> {
            Check.looks("today", 0, AheadEdges::spread, y -> y.becomes(0));
            Check.looks("today and 58", 0, AheadEdges::spread, y -> y.becomes(1));
            Check.looks("today and 59", 0, AheadEdges::spread, y -> y.becomes(2));
            Check.state("today and 60", AheadEdges::spread, y -> y.becomes(3));
            VisitHours x = spread();
            x.run(1);
            Check.is("a day later", x.becomes(2), 0);
            Check.state("the last day of all", AheadEdges::farthest, y -> y.becomes(0));
        });
    }

    private static VisitHours farthest() {
        VisitHours x = Prisons.open(1);
        x.book(0, 0, 9999, 7);
        return x;
    }

    // ---- save slots

    private static void save() {
        Edge.test("Promise 32", "Stores the present state in a save slot.", () -> {
            for (int slot = 0; slot <= 1; slot++) {
                VisitHours x = Prisons.remembering();
                x.save(slot);
                String stored = Check.visible(x);
                VisitHours y = Prisons.remembering();
                y.save(slot);
                y.run(30);
                y.addPrisoner(3);
                y.set(0, 4);
                y.restore(slot);
                Check.same("slot " + slot, Check.visible(y), stored);
            }
            VisitHours x = Prisons.some();
            x.run(1);
            x.save(0);
            x.run(1);
            Check.is("the later one stays", x.restore(0), 4);
            VisitHours z = Prisons.some();
            z.save(1);
            Check.is("it is no action", z.undo(), 6);
        });
        Edge.test("Promise 32", "`slot`: 0 or 1", () -> {
            Edge.inside("slot", 0, 1, Prisons::some, VisitHours::save);
            VisitHours x = Prisons.some();
            x.run(1);
            x.save(1);
            Check.is("the slot 0 has its own state", x.restore(0), 3);
            Check.is("the slot 1 has its own state", x.restore(1), 4);
        });
        Edge.test("Promise 32", "Returns today.", () -> {
            Check.is("the day 0", new VisitHours().save(0), 0);
            Check.is("the day 3", Prisons.some().save(1), 3);
        });
        Edge.test("Promise 32", "Throws `IndexOutOfBoundsException` if there is no such save slot", () ->
            Edge.noIndex("slot", 0, 1, Prisons::remembering, VisitHours::save));
    }

    private static void restore() {
        Edge.test("Promise 33", "Replaces the state by the one in a save slot, and forgets all remembered states.", () -> {
            VisitHours x = Prisons.remembering();
            x.restore(0);
            Check.same("the state", Check.visible(x), Check.visible(Check.loaded(
                    "man,3;man,1;man,0;may,0,0;may,0,1;may,1,1;may,2,2;run,3")));
            Check.same("nothing is remembered", Check.outcome(x, VisitHours::undo), "IllegalStateException");
            x.set(0, 1);
            Check.is("but for what is done then", x.undo(), 0);
            VisitHours y = Prisons.some();
            int length = Prisons.some().clearText();
            y.append('z');
            y.restore(0);
            Check.is("the text stays", y.clearText(), length + 1);
        });
        Edge.test("Promise 33", "The save slot keeps it.", () -> {
            VisitHours x = Prisons.some();
            for (int i = 0; i < 3; i++) {
                Check.is("today", x.restore(0), 3);
                Check.is("without bookings", x.about(2), 0);
                x.book(0, 0, 3, 0);
                x.run(30);
            }
        });
        Edge.test("Promise 33", "`slot`: 0 or 1", () -> Edge.inside("slot", 0, 1, AheadEdges::both, VisitHours::restore));
        Edge.test("Promise 33", "Returns today then.", () -> {
            Check.is("of the slot 0", both().restore(0), 3);
            Check.is("of the slot 1", both().restore(1), 33);
        });
        Edge.test("Promise 33", "Throws `IndexOutOfBoundsException` if there is no such save slot", () -> {
            Edge.noIndex("slot", 0, 1, AheadEdges::both, VisitHours::restore);
            Edge.noIndex("slot, nothing saved", 0, 1, VisitHours::new, VisitHours::restore);
        });
        Edge.test("Promise 33", "Throws `IllegalStateException` if nothing has been saved in it since the last load", () -> {
            Check.state("never, 0", VisitHours::new, y -> y.restore(0));
            Check.state("never, 1", VisitHours::new, y -> y.restore(1));
            Check.state("only in the other one", Prisons::remembering, y -> y.restore(1));
            Check.state("ahead of load, 0", AheadEdges::reloaded, y -> y.restore(0));
            Check.state("ahead of load, 1", AheadEdges::reloaded, y -> y.restore(1));
            VisitHours x = reloaded();
            x.save(1);
            Check.is("behind load", x.restore(1), 3);
            VisitHours y = both();
            y.append(';');
            Check.outcome(y, VisitHours::load);
            Check.is("a load that is refused leaves it", y.restore(1), 33);
        });
    }

    private static VisitHours both() {
        VisitHours x = Prisons.some();
        x.run(30);
        x.save(1);
        x.run(30);
        return x;
    }

    private static VisitHours reloaded() {
        VisitHours x = both();
        x.load();
        return x;
    }
}
