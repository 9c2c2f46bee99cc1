/** The sentences of "Terms" about times, prisoners, visitors, bookings and lines. */
final class TermEdges {
    private TermEdges() {
    }

    private static void term(String words, Runnable checks) {
        Edge.test("Terms", words, checks);
    }

    static void all() {
        Edge.plain("Terms", "It tells why a booking is not possible, which time would be, what the day brings, who waits.",
                "Changes can be undone.", "TIME", "PRISONERS", "VISITORS", "BOOKINGS", "LINES");
        time();
        prisoners();
        visitors();
        bookings();
        booths();
        order();
        lists();
        privileges();
        bans();
        weeks();
        hours();
        fullHoursAndBookings();
        lines();
        marks();
    }

    private static void time() {
        term("Days are numbered from 0;", () -> {
            Check.is("the day 0", Prisons.open(1).whyNot(0, 0, 0, 0), 0);
            Check.is("a booking of the day 0", Prisons.open(1).book(0, 0, 0, 0), 0);
            Check.argument("the day -1", () -> Prisons.open(1), y -> y.book(0, 0, -1, 0));
        });
        term("today is the day 0 at first;", () -> {
            Check.is("today", new VisitHours().about(1), 0);
            Check.is("today behind load", Check.loaded("man,0").about(1), 0);
        });
        term("the week of a day is its number divided by 7, rounded down.", () -> {
            int[][] cases = {{0, 6, 4}, {6, 0, 4}, {6, 7, 0}, {7, 6, 0}, {7, 13, 4}, {13, 7, 4}, {13, 14, 0},
                {14, 13, 0}, {9995, 9996, 0}, {9996, 9995, 0}, {9996, 9999, 4}, {9989, 9995, 4}, {9988, 9989, 0}};
            for (int[] days : cases) {
                VisitHours x = Check.loaded("man,0;may,0,0;may,0,1");
                x.book(0, 0, days[0], 0);
                Check.is("the day " + days[1] + " with a visit on " + days[0], x.whyNot(0, 1, days[1], 1), days[2]);
            }
        });
        term("There are 8 hours for visits in a day, 0 to 7.", () -> {
            Edge.inside("hour", 0, 7, () -> Prisons.open(1), (y, hour) -> y.book(0, 0, 0, hour));
            Edge.noArgument("hour", 0, 7, () -> Prisons.open(1), (y, hour) -> y.book(0, 0, 0, hour));
            Check.is("the hour 7, when 7 are taken", Prisons.taken(0, 7).firstTime(2, 2), 7);
            Check.is("no hour, when 8 are taken", Prisons.taken(0, 8).firstTime(2, 2), 8);
        });
    }

    private static void prisoners() {
        term("There are at most 8 prisoners, numbered from 0.", () -> {
            VisitHours x = new VisitHours();
            Check.same("nobody there yet", Check.outcome(x, y -> y.prisoner(0, 0)), "IndexOutOfBoundsException");
            for (int p = 0; p < 8; p++) {
                Check.is("prisoner", x.addPrisoner(0), p);
            }
            Check.is("eight prisoners", x.about(0), 8);
            Check.state("the ninth", Prisons::eight, y -> y.addPrisoner(0));
        });
        term("A prisoner has a rank, 0 to 3, a list of visitors (some of 0 to 9), a number of visits held so far,", () -> {
            Edge.inside("rank", 0, 3, VisitHours::new, VisitHours::addPrisoner);
            Edge.noArgument("rank", 0, 3, VisitHours::new, VisitHours::addPrisoner);
            Check.is("nobody on the list", Prisons.eight().prisoner(7, 1), 0);
            Check.is("all on the list", Prisons.open(1).prisoner(0, 1), 1023);
            Check.is("no visits at first", Prisons.open(1).prisoner(0, 3), 0);
        });
        term("and a day up to which privileges are lost, at first 0: they are lost on the days ahead of that day.", () -> {
            VisitHours x = Prisons.open(1);
            Check.is("at first", x.prisoner(0, 2), 0);
            Check.is("not lost at first", x.about(10), 0);
            Check.is("possible at first", x.whyNot(0, 0, 0, 0), 0);
            x.punish(0, 5);
            Check.is("lost on the day 0", x.whyNot(0, 0, 0, 0), 2);
            Check.is("lost on the day 4", x.whyNot(0, 0, 4, 0), 2);
            Check.is("not lost on the day 5", x.whyNot(0, 0, 5, 0), 0);
            x.run(4);
            Check.is("lost on the day 4, the last one", x.about(10), 1);
            x.run(1);
            Check.is("not lost on the day 5", x.about(10), 0);
        });
        term("Two prisoners can be apart: they must not have bookings for the same hour of a day.", () -> {
            VisitHours x = Prisons.open(3);
            Check.is("nobody is apart at first", x.prisoner(0, 7), 0);
            x.keepApart(0, 1, true);
            x.book(0, 0, 1, 3);
            Check.is("the same hour of the day", x.whyNot(1, 1, 1, 3), 6);
            Check.is("the hour ahead", x.whyNot(1, 1, 1, 2), 0);
            Check.is("the hour behind", x.whyNot(1, 1, 1, 4), 0);
            Check.is("that hour of another day", x.whyNot(1, 1, 2, 3), 0);
            Check.is("another prisoner", x.whyNot(2, 2, 1, 3), 0);
        });
    }

    private static void visitors() {
        term("There are 10 visitors, 0 to 9.", () -> {
            Edge.inside("visitor", 0, 9, VisitHours::new, (y, v) -> y.visitor(v, 0));
            Edge.noIndex("visitor", 0, 9, VisitHours::new, (y, v) -> y.visitor(v, 0));
        });
        term("A visitor has strikes, at first 0,", () -> {
            for (int v = 0; v <= 9; v++) {
                Check.is("strikes of " + v, new VisitHours().visitor(v, 0), 0);
            }
        });
        term("a day up to which there is a ban, at first 0 (there is one on the days ahead of that day),", () -> {
            for (int v = 0; v <= 9; v++) {
                Check.is("the day of " + v, new VisitHours().visitor(v, 1), 0);
            }
            Check.is("no bans at first", new VisitHours().about(9), 0);
            VisitHours x = bannedUpTo15();
            Check.is("the day", x.visitor(0, 1), 15);
            Check.is("a ban on the day 14", x.whyNot(1, 0, 14, 0), 3);
            Check.is("none on the day 15", x.whyNot(1, 0, 15, 0), 0);
            x.run(13);
            Check.is("a ban today, the day 14", x.about(9), 1);
            x.run(1);
            Check.is("none today, the day 15", x.about(9), 0);
        });
        term("and carries something, or not (at first not).", () -> {
            for (int v = 0; v <= 9; v++) {
                Check.is("what " + v + " carries", new VisitHours().visitor(v, 2), 0);
            }
            VisitHours x = new VisitHours();
            x.carry(9, true);
            Check.is("9 carries something", x.visitor(9, 2), 1);
            Check.is("8 does not", x.visitor(8, 2), 0);
        });
    }

    /** Today is the day 1; the visitor 0 is banned, the prisoner 0 has lost privileges up to the day 8. */
    private static VisitHours bannedUpTo15() {
        VisitHours x = Prisons.searched(3);
        x.carry(0, true);
        x.book(0, 0, 0, 0);
        x.run(1);
        return x;
    }

    private static void bookings() {
        term("There are at most 24 bookings.", () -> {
            Check.is("none there yet", new VisitHours().about(2), 0);
            VisitHours x = Prisons.full();
            Check.is("24 bookings", x.about(2), 24);
            Check.is("the last one", x.booking(23, 0), 2);
            Check.state("the 25th", Prisons::full, y -> y.book(0, 0, 3, 0));
            x.cancel(23);
            Check.is("the 24th again", x.book(0, 0, 3, 0), 0);
            Check.is("24 again", x.about(2), 24);
        });
        term("A booking has a day, an hour, a booth, a prisoner, a visitor and minutes, 0 to 59, by which the visitor "
                + "will be late, at first 0.", () -> {
            VisitHours x = Prisons.open(8);
            x.book(7, 9, 9999, 7);
            int[] due = {9999, 7, 0, 7, 9, 0};
            for (int what = 0; what < due.length; what++) {
                Check.is("number " + what, x.booking(0, what), due[what]);
            }
            Edge.inside("minutes", 0, 59, Prisons::some, (y, minutes) -> y.late(0, minutes));
            Edge.noArgument("minutes", 0, 59, Prisons::some, (y, minutes) -> y.late(0, minutes));
        });
    }

    private static void booths() {
        term("In an hour there are as many booths as setting 0 tells, numbered from 0;", () -> {
            for (int booths = 1; booths <= 4; booths++) {
                VisitHours x = Prisons.open(5);
                x.set(0, booths);
                for (int p = 0; p < booths; p++) {
                    Check.is("of " + booths + " booths", x.book(p, p, 3, 3), p);
                }
                Check.is("one more than " + booths, x.whyNot(4, 4, 3, 3), 7);
                Check.is("another hour", x.whyNot(4, 4, 3, 4), 0);
                Check.is("another day", x.whyNot(4, 4, 4, 3), 0);
            }
        });
        term("a booking gets the lowest one that no other booking has in that hour (bookings that keep a higher booth "
                + "take none of these).", () -> {
            VisitHours x = fourBooths();
            x.cancel(2);
            Check.is("the only one that is free", x.book(4, 4, 3, 3), 2);
            x.cancel(1);
            x.cancel(2);
            Check.is("the lower one of two", x.book(5, 5, 3, 3), 1);
            VisitHours fewer = fourBooths();
            fewer.set(0, 2);
            fewer.cancel(1);
            Check.is("beside the higher booths 2 and 3", fewer.book(4, 4, 3, 3), 1);
            Check.is("both booths are taken", fewer.whyNot(5, 5, 3, 3), 7);
            fewer.set(0, 1);
            fewer.cancel(0);
            Check.is("one booth, three higher ones kept", fewer.book(5, 5, 3, 3), 0);
            fewer.set(0, 4);
            Check.is("all four taken again", fewer.whyNot(6, 6, 3, 3), 7);
        });
    }

    /** The prisoners 0 to 3 have the booths 0 to 3 of one hour. */
    private static VisitHours fourBooths() {
        VisitHours x = Prisons.open(7);
        x.set(0, 4);
        for (int p = 0; p < 4; p++) {
            x.book(p, p, 3, 3);
        }
        return x;
    }

    private static void order() {
        term("Bookings are in the order of their days, then of their hours, then of their booths, and are numbered so "
                + "from 0.", () -> {
            VisitHours x = Prisons.open(6);
            x.book(0, 0, 10, 0);
            x.book(1, 1, 9, 7);
            x.book(2, 2, 9, 0);
            x.book(3, 3, 9, 0);
            x.book(4, 4, 0, 7);
            x.book(5, 5, 9, 7);
            String[] due = {"0d7h0 p4 v4", "9d0h0 p2 v2", "9d0h1 p3 v3", "9d7h0 p1 v1", "9d7h1 p5 v5", "10d0h0 p0 v0"};
            for (int k = 0; k < due.length; k++) {
                Check.same("line " + k, Check.lineOf(x, k), due[k]);
            }
            x.cancel(1);
            x.book(0, 0, 9, 0);
            Check.same("a lower booth comes ahead", Check.lineOf(x, 1), "9d0h0 p0 v0");
            Check.same("of the higher one", Check.lineOf(x, 2), "9d0h1 p3 v3");
        });
    }

    /** A prison in which of the reasons against a visit of 0 to 0 on the day 14 this one applies and all behind it. */
    private static VisitHours against(int first) {
        VisitHours x = Prisons.searched(8);
        x.carry(0, first <= 3);
        x.book(7, 0, 0, 0);
        x.book(6, first <= 5 ? 0 : 6, 14, 0);
        x.book(1, 1, 14, 0);
        x.run(1);
        for (int i = 0; i < 4; i++) {
            x.book(0, 9, first <= 4 ? 15 + i : 28 + i, 0);
        }
        for (int p = 1; p <= 6; p++) {
            for (int day = 21; day < 24; day++) {
                x.book(p, p, day, p);
            }
        }
        x.keepApart(0, 1, first <= 6);
        x.set(0, first <= 7 ? 2 : 3);
        x.punish(0, first <= 2 ? 14 : 13);
        x.list(0, 0, first > 1);
        if (first > 8) {
            x.cancel(23);
        }
        return x;
    }

    private static void lists() {
        term("A booking of a prisoner and a visitor for a day and an hour is possible if none of these applies, which are "
                + "asked for in this order:", () -> {
            for (int first = 1; first <= 9; first++) {
                VisitHours x = against(first);
                Check.is("all reasons from " + first + " on", x.whyNot(0, 0, 14, 0), first % 9);
                String booked = Check.outcome(x, y -> y.book(0, 0, 14, 0));
                Check.same("book with all from " + first + " on", booked, first <= 8 ? "IllegalStateException" : "2");
            }
        });
        term("1: the visitor is not on the list of the prisoner;", () -> {
            VisitHours x = Check.loaded("man,0;man,0");
            Check.is("nobody is on it yet", x.whyNot(0, 0, 0, 0), 1);
            x.list(0, 9, true);
            Check.is("on it", x.whyNot(0, 9, 0, 0), 0);
            Check.is("another visitor", x.whyNot(0, 8, 0, 0), 1);
            Check.is("on the list of another one", x.whyNot(1, 9, 0, 0), 1);
            x.list(0, 9, false);
            Check.is("not on it any more", x.whyNot(0, 9, 0, 0), 1);
        });
    }

    private static void privileges() {
        term("2: the privileges of the prisoner are lost on that day;", () -> {
            VisitHours x = Prisons.open(2);
            x.run(3);
            x.punish(0, 1);
            Check.is("lost today", x.whyNot(0, 0, 3, 0), 2);
            Check.is("not tomorrow", x.whyNot(0, 0, 4, 0), 0);
            Check.is("another prisoner", x.whyNot(1, 0, 3, 0), 0);
            x.punish(0, 0);
            Check.is("not today", x.whyNot(0, 0, 3, 0), 0);
            x.punish(0, 99);
            Check.is("the last day", x.whyNot(0, 0, 101, 0), 2);
            Check.is("the day behind", x.whyNot(0, 0, 102, 0), 0);
        });
    }

    private static void bans() {
        term("3: there is a ban for the visitor on that day;", () -> {
            VisitHours x = bannedUpTo15();
            Check.is("today", x.whyNot(1, 0, 1, 0), 3);
            Check.is("the last day", x.whyNot(1, 0, 14, 7), 3);
            Check.is("the day behind", x.whyNot(1, 0, 15, 0), 0);
            Check.is("another visitor", x.whyNot(1, 1, 1, 0), 0);
        });
    }

    private static void weeks() {
        term("4: the prisoner has as many visits in that week, held ones and bookings together, as the rank and 1 (or "
                + "more);", () -> {
            for (int rank = 0; rank <= 3; rank++) {
                for (int held = 0; held <= rank + 1; held++) {
                    visitsOfAWeek(rank, held);
                }
            }
            VisitHours x = Prisons.open(1);
            for (int day = 0; day < 4; day++) {
                x.book(0, 0, day, 0);
            }
            x.promote(0, 2);
            Check.is("more than the rank and 1", x.whyNot(0, 0, 6, 0), 4);
            x.promote(0, 0);
            Check.is("many more", x.whyNot(0, 0, 6, 0), 4);
            x.late(0, 59);
            x.promote(0, 3);
            x.run(4);
            Check.is("one who was too late is no visit", x.whyNot(0, 0, 6, 0), 0);
        });
    }

    /** A prisoner with as many visits as the rank, and then with one more; some of them are held already. */
    private static void visitsOfAWeek(int rank, int held) {
        VisitHours x = Prisons.open(2);
        x.promote(0, rank);
        x.run(7);
        String name = "rank " + rank + ", " + held + " of the visits held, ";
        for (int i = 0; i <= rank; i++) {
            Check.is(name + i + " visits", x.whyNot(0, 0, 13, 7), 0);
            x.book(0, 0, i < held ? 7 : 13, i);
        }
        x.run(1);
        Check.is(name + "held", x.about(4), Math.min(held, rank + 1));
        Check.is(name + "as many as the rank and 1", x.whyNot(0, 1, 13, 7), 4);
        Check.is(name + "as many, on the first day left", x.whyNot(0, 1, 8, 7), 4);
        Check.is(name + "in the next week", x.whyNot(0, 1, 14, 7), 0);
        Check.is(name + "another prisoner", x.whyNot(1, 1, 13, 7), 0);
    }

    private static void hours() {
        term("5: the prisoner or the visitor has a booking in that hour;", () -> {
            VisitHours x = Prisons.open(3);
            x.book(0, 0, 2, 3);
            Check.is("the prisoner", x.whyNot(0, 1, 2, 3), 5);
            Check.is("the visitor", x.whyNot(1, 0, 2, 3), 5);
            Check.is("both", x.whyNot(0, 0, 2, 3), 5);
            Check.is("neither", x.whyNot(1, 1, 2, 3), 0);
            Check.is("the hour ahead", x.whyNot(0, 0, 2, 2), 0);
            Check.is("the hour behind", x.whyNot(0, 0, 2, 4), 0);
            Check.is("that hour of the next day", x.whyNot(0, 0, 3, 3), 0);
            x.cancel(0);
            Check.is("cancelled", x.whyNot(0, 0, 2, 3), 0);
        });
        term("6: a prisoner who is apart from this one has a booking in that hour;", () -> {
            VisitHours x = Prisons.open(8);
            x.keepApart(7, 0, true);
            x.book(0, 0, 2, 3);
            Check.is("apart", x.whyNot(7, 7, 2, 3), 6);
            Check.is("not apart", x.whyNot(6, 7, 2, 3), 0);
            Check.is("another hour", x.whyNot(7, 7, 2, 4), 0);
            x.keepApart(0, 7, false);
            Check.is("not any more", x.whyNot(7, 7, 2, 3), 0);
        });
    }

    private static void fullHoursAndBookings() {
        term("7: no booth is free;", () -> {
            VisitHours x = Prisons.open(3);
            x.set(0, 1);
            Check.is("none is taken", x.whyNot(0, 0, 2, 3), 0);
            x.book(0, 0, 2, 3);
            Check.is("the only one is taken", x.whyNot(1, 1, 2, 3), 7);
            x.set(0, 2);
            Check.is("one of two is taken", x.whyNot(1, 1, 2, 3), 0);
            x.book(1, 1, 2, 3);
            Check.is("two of two", x.whyNot(2, 2, 2, 3), 7);
            x.cancel(0);
            Check.is("the lower one is free", x.whyNot(2, 2, 2, 3), 0);
        });
        term("8: there are 24 bookings.", () -> {
            VisitHours x = Prisons.full();
            Check.is("24", x.whyNot(0, 0, 3, 0), 8);
            Check.is("24, on the last day", x.whyNot(7, 7, 9999, 7), 8);
            x.cancel(0);
            Check.is("23", x.whyNot(0, 0, 3, 0), 0);
        });
    }

    private static void lines() {
        term("The line of a booking is a text: its day, the letter d, its hour, the letter h, its booth, a blank, the "
                + "letter p and the prisoner, a blank, the letter v and the visitor,", () -> {
            VisitHours x = Prisons.open(8);
            x.set(0, 4);
            x.book(0, 0, 0, 0);
            for (int p = 4; p <= 7; p++) {
                x.book(p, p + 2, 9999, 7);
            }
            Check.same("the least numbers", Check.lineOf(x, 0), "0d0h0 p0 v0");
            Check.same("the greatest numbers", Check.lineOf(x, 4), "9999d7h3 p7 v9");
        });
        term("and then, if the visitor will be late, a plus sign and the minutes,", () -> {
            VisitHours x = Prisons.open(1);
            x.book(0, 0, 10, 0);
            Check.same("not late", Check.lineOf(x, 0), "10d0h0 p0 v0");
            int[] minutes = {1, 9, 10, 59};
            for (int late : minutes) {
                x.late(0, late);
                Check.same("late", Check.lineOf(x, 0), "10d0h0 p0 v0+" + late);
            }
            x.late(0, 0);
            Check.same("not late any more", Check.lineOf(x, 0), "10d0h0 p0 v0");
        });
    }

    private static void marks() {
        term("and if there is a ban for the visitor on that day, or the privileges are lost on it, an exclamation mark.",
                () -> {
            VisitHours x = Prisons.searched(2);
            x.carry(0, true);
            x.book(0, 0, 0, 0);
            x.book(1, 0, 14, 0);
            x.book(1, 0, 15, 0);
            x.book(0, 1, 7, 0);
            x.book(0, 1, 8, 0);
            x.book(0, 0, 7, 1);
            x.run(1);
            x.late(1, 7);
            String[] due = {"7d0h0 p0 v1!", "7d1h0 p0 v0+7!", "8d0h0 p0 v1", "14d0h0 p1 v0!", "15d0h0 p1 v0"};
            for (int k = 0; k < due.length; k++) {
                Check.same("line " + k, Check.lineOf(x, k), due[k]);
            }
        });
    }
}
