/** The sentences of the promises 1 and 6 to 12. */
final class LookEdges {
    private static final int NONE = VisitHours.NONE;

    private LookEdges() {
    }

    static void all() {
        newObject();
        about();
        aboutDays();
        prisoner();
        prisonersNumbers();
        visitor();
        booking();
        line();
        wishAt();
        setting();
    }

    private static void newObject() {
        Edge.test("Promise 1", "Creates a prison without prisoners.", () -> {
            VisitHours x = new VisitHours();
            for (int what = 0; what <= 10; what++) {
                Check.is("about " + what, x.about(what), 0);
            }
            for (int what = 0; what <= 4; what++) {
                Check.is("visitor 9, " + what, x.visitor(9, what), 0);
            }
            Check.is("the first wish", x.wishAt(0), NONE);
            Check.is("the text", x.errorPosition(), 0);
            Check.is("its length", x.clearText(), 0);
            Check.is("days to come", x.coming(60, 0), 0);
            Check.is("wishes to come", x.coming(60, 4), 0);
            Check.is("turns of nobody", x.simulate(Long.MAX_VALUE, 60), 0);
            Check.is("a script", x.runScript(3, 60030_80000_90000L), NONE);
            Check.index("the prisoner 0", VisitHours::new, y -> y.prisoner(0, 0));
            Check.index("the booking 0", VisitHours::new, y -> y.booking(0, 0));
            Check.index("a first time", VisitHours::new, y -> y.firstTime(0, 0));
            Check.state("undo", VisitHours::new, VisitHours::undo);
            Check.state("the slot 0", VisitHours::new, y -> y.restore(0));
            Check.state("the slot 1", VisitHours::new, y -> y.restore(1));
        });
    }

    /**
     * The day 7: on the day 0 the first and the second were held, the third found, the fourth refused, on the day 6 the
     * fifth was too late; three bookings, two wishes.
     */
    static VisitHours week() {
        VisitHours x = Prisons.open(3);
        x.carry(2, true);
        x.book(0, 0, 0, 0);
        x.book(1, 1, 0, 1);
        x.book(2, 2, 0, 2);
        x.book(2, 3, 0, 3);
        x.book(1, 4, 6, 7);
        x.late(4, 16);
        x.run(7);
        x.book(0, 5, 7, 0);
        x.book(0, 6, 13, 7);
        x.book(0, 5, 14, 0);
        x.wish(0, 7);
        x.wish(1, 8);
        return x;
    }

    private static void about() {
        Edge.plain("Promise 6", "Returns a number.");
        Edge.test("Promise 6", "`what`: 0: the prisoners; 1: today; 2: the bookings; 3: the wishes that wait; 4: the visits "
                + "held so far; 5: those refused so far; 6: those at which something was found so far; 7: those who were too "
                + "late so far; 8: the visitors who were counted so far;", () -> {
            int[] due = {3, 7, 3, 2, 2, 1, 1, 1, 5};
            for (int what = 0; what < due.length; what++) {
                Check.is("about " + what, week().about(what), due[what]);
                Check.is("about " + what + " of a new object", new VisitHours().about(what), 0);
            }
            Check.is("8 prisoners", Prisons.eight().about(0), 8);
            Check.is("24 bookings", Prisons.full().about(2), 24);
            Check.is("10 wishes", Prisons.wishing().about(3), 10);
        });
        Edge.test("Promise 6", "Returns that number.", () -> {
            Check.looks("about 8", 5, LookEdges::week, y -> y.about(8));
            Check.looks("about 10", 1, LookEdges::week, y -> y.about(10));
        });
        Edge.test("Promise 6", "Throws `IllegalArgumentException` if what is not 0 to 10", () -> {
            Edge.inside("what", 0, 10, LookEdges::week, VisitHours::about);
            Edge.noArgument("what", 0, 10, LookEdges::week, VisitHours::about);
        });
    }

    private static void aboutDays() {
        Edge.test("Promise 6", "9: the visitors with a ban today;", () -> {
            VisitHours x = week();
            Check.is("up to the day 15", x.visitor(2, 1), 15);
            Check.is("on the day 7", x.about(9), 1);
            x.run(7);
            Check.is("on the day 14", x.about(9), 1);
            x.run(1);
            Check.is("on the day 15", x.about(9), 0);
        });
        Edge.test("Promise 6", "10: the prisoners whose privileges are lost today", () -> {
            VisitHours x = week();
            Check.is("up to the day 8", x.prisoner(2, 2), 8);
            Check.is("on the day 7", x.about(10), 1);
            x.punish(0, 1);
            x.punish(1, 99);
            Check.is("all three", x.about(10), 3);
            x.punish(1, 0);
            Check.is("up to today is not today", x.about(10), 2);
            x.run(1);
            Check.is("on the day 8", x.about(10), 0);
        });
    }

    private static void prisoner() {
        Edge.plain("Promise 7", "Returns a number of a prisoner.", "`p`: prisoner");
        Edge.test("Promise 7", "Returns that number.", () -> {
            int[][] due = {{3, 1023, 0, 1, 2, 3, 1, 0}, {3, 1023, 0, 1, 0, 0, 1, 0}, {3, 1023, 8, 0, 0, 0, 0, 0}};
            for (int p = 0; p < due.length; p++) {
                for (int what = 0; what < due[p].length; what++) {
                    Check.is("prisoner " + p + ", " + what, week().prisoner(p, what), due[p][what]);
                }
            }
            Check.looks("it changes nothing", 3, LookEdges::week, y -> y.prisoner(0, 5));
        });
        Edge.test("Promise 7", "Throws `IndexOutOfBoundsException` if there is no such prisoner", () -> {
            Edge.inside("prisoner", 0, 2, LookEdges::week, (y, p) -> y.prisoner(p, 0));
            Edge.noIndex("prisoner", 0, 2, LookEdges::week, (y, p) -> y.prisoner(p, 0));
            Edge.noIndex("prisoner of 8", 0, 7, Prisons::eight, (y, p) -> y.prisoner(p, 7));
            Edge.noIndex("prisoner, what 8", 0, 2, LookEdges::week, (y, p) -> y.prisoner(p, 8));
        });
        Edge.test("Promise 7", "Throws `IllegalArgumentException` if what is not 0 to 7", () -> {
            Edge.inside("what", 0, 7, LookEdges::week, (y, what) -> y.prisoner(2, what));
            Edge.noArgument("what", 0, 7, LookEdges::week, (y, what) -> y.prisoner(2, what));
        });
    }

    private static void prisonersNumbers() {
        Edge.test("Promise 7", "`what`: 0: the rank; 1: the list, bit v set for the visitor v; 2: the day up to which "
                + "privileges are lost; 3: the visits held so far;", () -> {
            VisitHours x = Prisons.eight();
            for (int v = 0; v <= 9; v++) {
                x.list(7, v, true);
                Check.is("the list with " + v, x.prisoner(7, 1), 1 << v);
                x.list(7, v, false);
            }
            Check.is("the rank", x.prisoner(7, 0), 3);
            x.punish(7, 99);
            Check.is("the day", x.prisoner(7, 2), 99);
            Check.is("no visits", x.prisoner(7, 3), 0);
        });
        Edge.test("Promise 7", "4: the visits of this week, held ones and bookings together;", () -> {
            VisitHours x = Prisons.open(1);
            int[] days = {0, 6, 7, 13, 13, 14};
            for (int k = 0; k < days.length; k++) {
                x.book(0, 0, days[k], k);
            }
            int[] due = {2, 2, 2, 2, 2, 2, 2, 3, 3, 3, 3, 3, 3, 3, 1, 1, 1, 1, 1, 1, 1, 0};
            for (int day = 0; day < due.length; day++) {
                Check.is("on the day " + day, x.prisoner(0, 4), due[day]);
                x.run(1);
            }
        });
        Edge.test("Promise 7", "5: the bookings; 6: the wishes that wait; 7: the prisoners who are apart from this one, bit q "
                + "set for the prisoner q", () -> {
            Check.is("bookings", Prisons.full().prisoner(7, 5), 3);
            Check.is("no bookings", Prisons.wishing().prisoner(0, 5), 0);
            Check.is("ten wishes", Prisons.wishing().prisoner(0, 6), 10);
            Check.is("no wishes", Prisons.full().prisoner(0, 6), 0);
            VisitHours x = Prisons.eight();
            for (int q = 1; q <= 7; q++) {
                x.keepApart(0, q, true);
                Check.is("apart from " + q, x.prisoner(q, 7), 1);
                Check.is("all from whom 0 is apart", x.prisoner(0, 7), (2 << q) - 2);
            }
        });
    }

    private static void visitor() {
        Edge.plain("Promise 8", "Returns a number of a visitor.");
        Edge.test("Promise 8", "`v`: visitor, 0 to 9", () ->
            Edge.inside("visitor", 0, 9, LookEdges::week, (y, v) -> y.visitor(v, 4)));
        Edge.test("Promise 8", "`what`: 0: the strikes; 1: the day up to which there is a ban; 2: 1 if the visitor carries "
                + "something, otherwise 0; 3: the bookings; 4: the prisoners on whose list the visitor is, bit p set for the "
                + "prisoner p", () -> {
            VisitHours x = Prisons.eight();
            for (int p = 0; p <= 7; p++) {
                x.list(p, 9, true);
                Check.is("on the lists up to " + p, x.visitor(9, 4), (2 << p) - 1);
                Check.is("another visitor", x.visitor(8, 4), 0);
            }
            x.list(7, 9, false);
            Check.is("not on the last one", x.visitor(9, 4), 127);
            x.carry(9, true);
            Check.is("carries", x.visitor(9, 2), 1);
            x.carry(9, false);
            Check.is("does not", x.visitor(9, 2), 0);
            Check.is("bookings", Prisons.full().visitor(7, 3), 3);
            Check.is("no bookings", Prisons.full().visitor(8, 3), 0);
        });
        Edge.test("Promise 8", "Returns that number.", () -> {
            int[][] due = {{2, 0, 15, 0, 0, 7}, {4, 1, 0, 0, 0, 7}, {5, 0, 0, 0, 2, 7}, {6, 0, 0, 0, 1, 7}};
            for (int[] numbers : due) {
                for (int what = 0; what <= 4; what++) {
                    Check.is("visitor " + numbers[0], week().visitor(numbers[0], what), numbers[what + 1]);
                }
            }
            Check.looks("it changes nothing", 15, LookEdges::week, y -> y.visitor(2, 1));
        });
        Edge.test("Promise 8", "Throws `IndexOutOfBoundsException` if there is no such visitor", () -> {
            Edge.noIndex("visitor", 0, 9, LookEdges::week, (y, v) -> y.visitor(v, 0));
            Edge.noIndex("visitor, what 5", 0, 9, LookEdges::week, (y, v) -> y.visitor(v, 5));
        });
        Edge.test("Promise 8", "Throws `IllegalArgumentException` if what is not 0 to 4", () -> {
            Edge.inside("what", 0, 4, LookEdges::week, (y, what) -> y.visitor(9, what));
            Edge.noArgument("what", 0, 4, LookEdges::week, (y, what) -> y.visitor(9, what));
        });
    }

    private static void booking() {
        Edge.plain("Promise 9", "Returns a number of a booking.", "`k`: booking");
        Edge.test("Promise 9", "`what`: 0: its day; 1: its hour; 2: its booth; 3: its prisoner; 4: its visitor; 5: its minutes",
                () -> {
            VisitHours x = Prisons.open(8);
            x.set(0, 4);
            x.book(0, 0, 0, 0);
            for (int p = 4; p <= 7; p++) {
                x.book(p, p + 2, 9999, 7);
            }
            x.late(4, 59);
            int[] least = {0, 0, 0, 0, 0, 0};
            int[] most = {9999, 7, 3, 7, 9, 59};
            for (int what = 0; what <= 5; what++) {
                Check.is("of the first", x.booking(0, what), least[what]);
                Check.is("of the last", x.booking(4, what), most[what]);
            }
        });
        Edge.test("Promise 9", "Returns that number.", () ->
            Check.looks("it changes nothing", 20, Prisons::some, y -> y.booking(1, 5)));
        Edge.test("Promise 9", "Throws `IndexOutOfBoundsException` if there is no such booking", () -> {
            Edge.inside("booking", 0, 1, Prisons::some, (y, k) -> y.booking(k, 0));
            Edge.noIndex("booking", 0, 1, Prisons::some, (y, k) -> y.booking(k, 0));
            Edge.inside("booking of 24", 0, 23, Prisons::full, (y, k) -> y.booking(k, 5));
            Edge.noIndex("booking of 24", 0, 23, Prisons::full, (y, k) -> y.booking(k, 5));
            Edge.noIndex("booking of none", 0, -1, VisitHours::new, (y, k) -> y.booking(k, 0));
            Edge.noIndex("booking, what 6", 0, 1, Prisons::some, (y, k) -> y.booking(k, 6));
        });
        Edge.test("Promise 9", "Throws `IllegalArgumentException` if what is not 0 to 5", () -> {
            Edge.inside("what", 0, 5, Prisons::some, (y, what) -> y.booking(1, what));
            Edge.noArgument("what", 0, 5, Prisons::some, (y, what) -> y.booking(1, what));
        });
    }

    private static void line() {
        Edge.plain("Promise 10", "Returns a character of the line of a booking.", "`k`: booking");
        Edge.test("Promise 10", "`i`: index, from 0", () -> {
            Check.is("the first character", Prisons.some().line(1, 0), '4');
            Check.is("the second character", Prisons.some().line(1, 1), 'd');
        });
        Edge.test("Promise 10", "Returns the code of this character; NONE if the line is not so long.", () -> {
            Check.is("the last character", Prisons.some().line(1, 13), '0');
            Check.is("the one behind", Prisons.some().line(1, 14), NONE);
            Check.is("far behind", Prisons.some().line(1, 120), NONE);
            Check.looks("at the end of int", NONE, Prisons::some, y -> y.line(1, Integer.MAX_VALUE));
            VisitHours x = Prisons.open(8);
            x.book(7, 9, 9999, 7);
            Check.is("the last one of the longest without a mark", x.line(0, 13), '9');
            Check.is("behind it", x.line(0, 14), NONE);
        });
        Edge.test("Promise 10", "Throws `IndexOutOfBoundsException` if there is no such booking", () -> {
            Edge.inside("line", 0, 1, Prisons::some, (y, k) -> y.line(k, 0));
            Edge.noIndex("line", 0, 1, Prisons::some, (y, k) -> y.line(k, 0));
            Edge.noIndex("line of 24", 0, 23, Prisons::full, (y, k) -> y.line(k, 0));
            Edge.noIndex("line of none", 0, -1, VisitHours::new, (y, k) -> y.line(k, 0));
            Edge.noIndex("line, at -1", 0, 1, Prisons::some, (y, k) -> y.line(k, -1));
        });
        Edge.test("Promise 10", "Throws `IllegalArgumentException` if i is negative", () -> {
            Check.argument("at -1", Prisons::some, y -> y.line(1, -1));
            Check.argument("at the least int", Prisons::some, y -> y.line(1, Integer.MIN_VALUE));
        });
    }

    private static void wishAt() {
        Edge.plain("Promise 11", "Returns a wish.");
        Edge.test("Promise 11", "`k`: which one, from 0, in the order in which wishes are looked at", () -> {
            VisitHours x = Prisons.unsearched(3);
            x.book(0, 0, 0, 0);
            x.book(0, 1, 0, 1);
            x.book(1, 2, 0, 2);
            x.run(1);
            int[] wishes = {0, 10, 20, 3, 21, 15};
            for (int wish : wishes) {
                x.wish(wish / 10, wish % 10);
            }
            int[] due = {20, 21, 10, 15, 0, 3, NONE};
            for (int k = 0; k < due.length; k++) {
                Check.is("wish " + k, x.wishAt(k), due[k]);
            }
        });
        Edge.test("Promise 11", "Returns 10 * (its prisoner) + (its visitor); NONE if there are not so many.", () -> {
            Check.is("none there", new VisitHours().wishAt(0), NONE);
            Check.is("the only one", Prisons.some().wishAt(0), 22);
            Check.is("behind it", Prisons.some().wishAt(1), NONE);
            Check.is("the tenth of ten", Prisons.wishing().wishAt(9), 1);
            Check.is("the eleventh", Prisons.wishing().wishAt(10), NONE);
            Check.looks("at the end of int", NONE, Prisons::wishing, y -> y.wishAt(Integer.MAX_VALUE));
            VisitHours x = Prisons.open(8);
            x.wish(7, 9);
            Check.is("the greatest numbers", x.wishAt(0), 79);
        });
        Edge.test("Promise 11", "Throws `IllegalArgumentException` if k is negative", () -> {
            Check.argument("-1", Prisons::wishing, y -> y.wishAt(-1));
            Check.argument("the least int", Prisons::wishing, y -> y.wishAt(Integer.MIN_VALUE));
            Check.argument("-1, none there", VisitHours::new, y -> y.wishAt(-1));
        });
    }

    private static void setting() {
        Edge.plain("Promise 12", "Returns a setting.");
        Edge.test("Promise 12", "`what`: 0 to 5", () -> Edge.inside("what", 0, 5, VisitHours::new, VisitHours::setting));
        Edge.test("Promise 12", "Returns that setting.", () -> {
            int[] first = {2, 3, 14, 7, 10, 15};
            int[] most = {4, 9, 99, 99, 59, 99};
            VisitHours x = new VisitHours();
            for (int what = 0; what <= 5; what++) {
                Check.is("at first", x.setting(what), first[what]);
                x.set(what, most[what]);
                Check.is("then", x.setting(what), most[what]);
            }
            Check.looks("it changes nothing", 2, Prisons::some, y -> y.setting(0));
        });
        Edge.test("Promise 12", "Throws `IllegalArgumentException` if what is out of range", () ->
            Edge.noArgument("what", 0, 5, Prisons::some, VisitHours::setting));
    }
}
