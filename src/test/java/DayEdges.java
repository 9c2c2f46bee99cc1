/** The sentences of "Terms" about what happens when a day goes by, and about settings. */
final class DayEdges {
    private DayEdges() {
    }

    private static void term(String words, Runnable checks) {
        Edge.test("Terms", words, checks);
    }

    static void all() {
        Edge.plain("Terms", "A DAY", "When a day goes by, this happens:", "There are settings:");
        wishesInOrder();
        wishesFindTime();
        wishesGo();
        inOrder();
        counted();
        refused();
        searched();
        found();
        tooLate();
        strikes();
        held();
        later();
        settings();
        keptBooths();
    }

    private static void linesAre(VisitHours x, String... due) {
        Check.is("bookings", x.about(2), due.length);
        for (int k = 0; k < due.length && k < x.about(2); k++) {
            Check.same("line " + k, Check.lineOf(x, k), due[k]);
        }
    }

    /** Lets a day go by on which no booking is possible, so that wishes become bookings of the next day. */
    private static void runWithoutToday(VisitHours x) {
        for (int p = 0; p < x.about(0); p++) {
            x.punish(p, 1);
        }
        x.run(1);
    }

    private static void wishesInOrder() {
        term("1. The wishes that wait are looked at: those of prisoners with the fewest visits held so far first, of "
                + "several the earliest wish.", () -> {
            VisitHours nobody = new VisitHours();
            Check.is("nobody and no wish", nobody.run(30), 0);
            Check.is("thirty days", nobody.about(1), 30);
            VisitHours x = Prisons.unsearched(3);
            x.set(0, 1);
            x.book(0, 0, 0, 0);
            x.book(0, 1, 0, 1);
            x.book(1, 2, 0, 2);
            x.run(7);
            int[] wishes = {5, 16, 27, 4, 28, 19};
            for (int wish : wishes) {
                x.wish(wish / 10, wish % 10);
            }
            runWithoutToday(x);
            linesAre(x, "8d0h0 p2 v7", "8d1h0 p2 v8", "8d2h0 p1 v6", "8d3h0 p1 v9", "8d4h0 p0 v5", "8d5h0 p0 v4");
            VisitHours ten = Prisons.open(4);
            for (int i = 0; i < 10; i++) {
                ten.wish(i % 4, i);
            }
            Check.is("ten wishes at once", ten.run(1), 10);
        });
    }

    private static int waitingAfter(int lostDays) {
        VisitHours x = Prisons.open(1);
        x.run(3);
        x.punish(0, lostDays);
        x.wish(0, 0);
        x.run(1);
        return x.about(3);
    }

    /** The line of the only booking of the prisoner 2, whose wish found it. */
    private static String foundBehind(VisitHours x) {
        x.punish(2, 1);
        x.wish(2, 2);
        x.run(1);
        for (int k = 0; k < x.about(2); k++) {
            if (x.booking(k, 3) == 2) {
                return Check.lineOf(x, k);
            }
        }
        return "none";
    }

    private static void wishesFindTime() {
        term("For each, the first day, from today to today and 6, and then the first hour is looked for for which a "
                + "booking is possible (with those that were made just now);", () -> {
            VisitHours today = Prisons.open(1);
            today.wish(0, 0);
            Check.is("today", today.run(1), 1);
            Check.is("today and 6", waitingAfter(6), 0);
            Check.is("today and 7", waitingAfter(7), 1);
            Check.same("the hour 0", foundBehind(Prisons.taken(1, 0)), "1d0h0 p2 v2");
            Check.same("the hour 1", foundBehind(Prisons.taken(1, 1)), "1d1h0 p2 v2");
            Check.same("the hour 7", foundBehind(Prisons.taken(1, 7)), "1d7h0 p2 v2");
            Check.same("no hour of that day", foundBehind(Prisons.taken(1, 8)), "2d0h0 p2 v2");
            VisitHours x = Prisons.open(4);
            x.keepApart(0, 1, true);
            x.wish(0, 0);
            x.wish(1, 1);
            x.wish(2, 0);
            x.wish(3, 3);
            x.wish(3, 4);
            runWithoutToday(x);
            linesAre(x, "1d0h0 p0 v0", "1d0h1 p3 v3", "1d1h0 p1 v1", "1d1h1 p2 v0", "1d2h0 p3 v4");
        });
    }

    private static void wishesGo() {
        term("if there is one, it is made, and the wish is gone.", () -> {
            VisitHours x = Prisons.open(2);
            x.wish(0, 0);
            x.wish(1, 1);
            x.wish(0, 2);
            x.list(0, 0, false);
            Check.is("two are held", x.run(1), 2);
            Check.is("one waits", x.about(3), 1);
            Check.is("the one that was not possible", x.wishAt(0), 0);
            Check.is("no booking is left", x.about(2), 0);
            VisitHours full = Prisons.full();
            for (int p = 0; p < 8; p++) {
                full.punish(p, 1);
            }
            full.wish(0, 0);
            full.run(1);
            Check.is("24 bookings, and the wish waits", full.about(3), 1);
            Check.is("a day later it is made and held", full.run(1), 9);
            Check.is("and gone", full.about(3), 0);
        });
    }

    private static void inOrder() {
        term("2. The bookings of today are looked at in their order, and are gone then;", () -> {
            VisitHours x = Prisons.open(4);
            x.set(1, 2);
            for (int v = 0; v < 4; v++) {
                x.carry(v, true);
            }
            x.book(3, 3, 0, 1);
            x.book(2, 2, 0, 0);
            x.book(1, 1, 0, 0);
            x.book(0, 0, 0, 1);
            x.book(0, 0, 1, 0);
            x.run(1);
            Check.is("the second, of the hour 0 and the booth 1", x.visitor(1, 2), 0);
            Check.is("the fourth, of the hour 1 and the booth 1", x.visitor(0, 2), 0);
            Check.is("the first", x.visitor(2, 2), 1);
            Check.is("the third", x.visitor(3, 2), 1);
            linesAre(x, "1d0h0 p0 v0!");
        });
    }

    private static void counted() {
        term("each visitor who is looked at is counted (also who is refused; the count goes on from day to day).", () -> {
            VisitHours x = Prisons.open(3);
            x.book(0, 0, 0, 0);
            x.book(1, 1, 0, 0);
            x.book(2, 2, 2, 0);
            x.punish(0, 1);
            x.carry(2, true);
            Check.is("nobody yet", x.about(8), 0);
            x.run(1);
            Check.is("one is refused", x.about(5), 1);
            Check.is("two are counted", x.about(8), 2);
            x.run(1);
            Check.is("a day without visitors", x.about(8), 2);
            x.run(1);
            Check.is("three are counted", x.about(8), 3);
            Check.is("the third is searched", x.about(6), 1);
        });
    }

    /** Privileges lost up to the day 5, and the booking of a day. */
    private static int refusedOn(int day) {
        VisitHours x = Prisons.open(1);
        x.book(0, 0, day, 0);
        x.punish(0, 5);
        x.run(day + 1);
        return x.about(5);
    }

    /** A ban up to the day 4, and the booking of a day with another prisoner. */
    private static int refusedByBanOn(int day) {
        VisitHours x = Prisons.searched(2);
        x.set(2, 3);
        x.carry(0, true);
        x.book(0, 0, 0, 0);
        x.book(1, 0, day, 0);
        x.run(day + 1);
        return x.about(5);
    }

    private static void refused() {
        term("If privileges are lost or there is a ban by now (nothing else is asked any more), the visit is refused.",
                () -> {
            Check.is("privileges lost, the first day", refusedOn(0), 1);
            Check.is("privileges lost, the last day", refusedOn(4), 1);
            Check.is("not lost any more", refusedOn(5), 0);
            Check.is("a ban, the first day", refusedByBanOn(1), 1);
            Check.is("a ban, the last day", refusedByBanOn(3), 1);
            Check.is("no ban any more", refusedByBanOn(4), 0);
            VisitHours x = Prisons.open(2);
            x.book(0, 0, 1, 0);
            x.book(1, 1, 1, 0);
            x.book(1, 2, 2, 0);
            x.list(0, 0, false);
            x.keepApart(0, 1, true);
            x.promote(1, 0);
            x.set(0, 1);
            Check.is("nothing else is asked", x.run(3), 3);
        });
        term("Otherwise the visitor is searched", () -> {
            VisitHours x = Prisons.searched(1);
            x.carry(0, true);
            x.book(0, 0, 0, 0);
            x.late(0, 59);
            x.punish(0, 1);
            x.run(1);
            Check.is("who is refused still carries it", x.visitor(0, 2), 1);
            Check.is("and gets no ban", x.visitor(0, 1), 0);
            Check.is("and no strike", x.visitor(0, 0), 0);
        });
    }

    private static void searched() {
        term("if the count is a multiple of setting 1, or the visitor has strikes.", () -> {
            for (int each = 1; each <= 9; each++) {
                VisitHours x = Prisons.open(3);
                x.set(1, each);
                for (int v = 0; v <= 9; v++) {
                    x.book(v / 4, v, v / 8, v % 8);
                    x.late(v, 6);
                }
                x.run(2);
                for (int v = 0; v <= 9; v++) {
                    Check.is("each " + each + ", the visitor " + (v + 1), x.visitor(v, 0), (v + 1) % each == 0 ? 1 : 0);
                }
            }
            VisitHours x = Prisons.unsearched(1);
            x.book(0, 0, 0, 0);
            x.book(0, 1, 1, 0);
            x.book(0, 0, 2, 0);
            x.late(0, 16);
            x.late(1, 6);
            x.late(2, 6);
            x.run(3);
            Check.is("without strikes, 6 minutes are not too late", x.visitor(1, 0), 0);
            Check.is("with a strike they are", x.visitor(0, 0), 2);
        });
    }

    private static void found(int banDays, int lossDays) {
        VisitHours x = Prisons.searched(2);
        x.run(5);
        x.set(2, banDays);
        x.set(3, lossDays);
        x.carry(0, true);
        x.book(0, 0, 5, 0);
        x.run(1);
        String name = banDays + " and " + lossDays + " days, ";
        Check.is(name + "the ban", x.visitor(0, 1), 6 + banDays);
        Check.is(name + "the privileges", x.prisoner(0, 2), 6 + lossDays);
        Check.is(name + "the last day of the ban", x.whyNot(1, 0, 5 + banDays, 0), 3);
        Check.is(name + "the day behind", x.whyNot(1, 0, 6 + banDays, 0), 0);
        Check.is(name + "the last day without privileges", x.whyNot(0, 1, 5 + lossDays, 0), 2);
        Check.is(name + "the day with privileges", x.whyNot(0, 1, 6 + lossDays, 0), 0);
        Check.is(name + "the other prisoner", x.prisoner(1, 2), 0);
        Check.is(name + "the other visitor", x.visitor(1, 1), 0);
    }

    private static void found() {
        term("If a visitor is searched who carries something, it is found: there is a ban for the visitor up to the day "
                + "today, 1 and setting 2, the privileges of the prisoner are lost up to the day today, 1 and setting 3 "
                + "(in both cases if that is later than what there was),", () -> {
            found(1, 1);
            found(14, 7);
            found(99, 99);
            found(1, 99);
            VisitHours x = Prisons.searched(1);
            x.carry(0, true);
            x.book(0, 0, 4, 0);
            x.punish(0, 4);
            x.run(5);
            Check.is("there was a day, which is over", x.prisoner(0, 2), 4 + 1 + 7);
        });
        term("and the visitor carries it no more.", () -> {
            VisitHours x = Prisons.open(1);
            x.set(1, 2);
            for (int v = 0; v < 4; v++) {
                x.carry(v, v != 3);
                x.book(0, v, v / 2, v % 2);
            }
            x.late(1, 59);
            x.run(1);
            Check.is("who is not searched", x.visitor(0, 2), 1);
            Check.is("who is searched", x.visitor(1, 2), 0);
            Check.is("who was not there", x.visitor(2, 2), 1);
            Check.is("found", x.about(6), 1);
            Check.is("and not too late", x.about(7), 0);
            Check.is("and no strike", x.visitor(1, 0), 0);
            Check.is("and no visit held", x.prisoner(0, 3), 1);
            VisitHours none = Prisons.searched(1);
            none.book(0, 0, 0, 0);
            Check.is("searched, and nothing is there", none.run(1), 1);
            Check.is("no ban", none.visitor(0, 1), 0);
        });
    }

    private static int strikesAt(int minutes, boolean searched, int search, int allowed) {
        VisitHours x = searched ? Prisons.searched(1) : Prisons.unsearched(1);
        x.set(4, search);
        x.set(5, allowed);
        x.book(0, 0, 0, 0);
        x.late(0, minutes);
        int held = x.run(1);
        Check.is("held or too late", held + x.about(7), 1);
        Check.is("too late and a strike", x.visitor(0, 0), x.about(7));
        return x.visitor(0, 0);
    }

    private static void tooLate() {
        term("Otherwise, if the minutes of being late, and setting 4 for one who is searched, are more than setting 5, the "
                + "visitor is too late, and gets one strike more;", () -> {
            Check.is("as many as allowed", strikesAt(15, false, 10, 15), 0);
            Check.is("one more", strikesAt(16, false, 10, 15), 1);
            Check.is("searched, as many as allowed", strikesAt(5, true, 10, 15), 0);
            Check.is("searched, one more", strikesAt(6, true, 10, 15), 1);
            Check.is("none, none and none", strikesAt(0, true, 0, 0), 0);
            Check.is("one, none and none", strikesAt(1, true, 0, 0), 1);
            Check.is("the search alone", strikesAt(0, true, 59, 58), 1);
            Check.is("the search alone, just so", strikesAt(0, true, 59, 59), 0);
            Check.is("no search, nothing late", strikesAt(0, false, 59, 0), 0);
            Check.is("the most of both", strikesAt(59, true, 59, 99), 1);
            Check.is("99 of both", strikesAt(40, true, 59, 99), 0);
            Check.is("100 of both", strikesAt(41, true, 59, 99), 1);
            Check.is("59 of 99", strikesAt(59, false, 59, 99), 0);
        });
    }

    private static void strikes() {
        term("if there are 3 then, there are 0 again, and there is a ban as above (if that is later).", () -> {
            VisitHours x = Prisons.unsearched(1);
            x.set(2, 99);
            for (int week = 0; week < 4; week++) {
                x.book(0, 0, 7 * week, 0);
                x.late(week, 59);
            }
            x.run(1);
            Check.is("one strike", x.visitor(0, 0), 1);
            x.run(7);
            Check.is("two strikes", x.visitor(0, 0), 2);
            Check.is("no ban", x.visitor(0, 1), 0);
            x.run(7);
            Check.is("none again", x.visitor(0, 0), 0);
            Check.is("a ban", x.visitor(0, 1), 14 + 1 + 99);
            Check.is("no privileges are lost", x.prisoner(0, 2), 0);
            Check.is("the fourth visit is refused", x.coming(7, 1), 1);
            VisitHours day = Prisons.unsearched(1);
            for (int k = 0; k < 4; k++) {
                day.book(0, 0, 0, k);
                day.late(k, 59);
            }
            day.run(1);
            Check.is("three on one day", day.about(7), 3);
            Check.is("none is left", day.visitor(0, 0), 0);
            Check.is("a ban of today", day.visitor(0, 1), 15);
            Check.is("the fourth one of the day is refused", day.about(5), 1);
        });
        term("Who has strikes by an earlier booking of the day is searched.", () -> {
            VisitHours x = Prisons.unsearched(2);
            x.book(0, 0, 0, 0);
            x.book(1, 0, 0, 1);
            x.book(1, 1, 0, 2);
            x.late(0, 16);
            x.late(1, 6);
            x.late(2, 6);
            x.run(1);
            Check.is("searched, and too late", x.visitor(0, 0), 2);
            Check.is("who has none is not", x.visitor(1, 0), 0);
            VisitHours carrier = Prisons.unsearched(2);
            carrier.book(0, 0, 0, 0);
            carrier.book(1, 0, 0, 1);
            carrier.late(0, 16);
            carrier.carry(0, true);
            carrier.run(1);
            Check.is("found", carrier.about(6), 1);
            Check.is("the second prisoner loses something", carrier.prisoner(1, 2), 8);
            Check.is("the strike stays", carrier.visitor(0, 0), 1);
        });
    }

    private static void held() {
        term("Otherwise the visit is held.", () -> {
            VisitHours x = Prisons.unsearched(2);
            x.carry(0, true);
            x.book(0, 0, 0, 0);
            x.late(0, 15);
            Check.is("held", x.run(1), 1);
            Check.is("held by all", x.about(4), 1);
            Check.is("held by the prisoner", x.prisoner(0, 3), 1);
            Check.is("a visit of this week", x.prisoner(0, 4), 1);
            Check.is("held by the other one", x.prisoner(1, 3), 0);
            Check.is("what is not found stays", x.visitor(0, 2), 1);
        });
        term("Then the next day begins.", () -> {
            VisitHours x = Prisons.open(1);
            x.book(0, 0, 6, 7);
            x.run(6);
            Check.is("the last day of the week", x.about(1), 6);
            Check.is("its visit", x.prisoner(0, 4), 1);
            x.run(1);
            Check.is("the first day of the next", x.about(1), 7);
            Check.is("without a visit", x.prisoner(0, 4), 0);
            Check.argument("yesterday is gone", () -> behindADay(), y -> y.book(0, 0, 0, 0));
            Check.is("today is here", behindADay().book(0, 0, 1, 0), 0);
        });
    }

    private static VisitHours behindADay() {
        VisitHours x = Prisons.open(1);
        x.run(1);
        return x;
    }

    private static void later() {
        term("(Later bookings stay, also those of prisoners and visitors who lost something.)", () -> {
            VisitHours x = Prisons.searched(2);
            x.carry(0, true);
            x.book(0, 0, 0, 0);
            x.book(0, 0, 1, 0);
            x.book(0, 1, 1, 1);
            x.book(1, 0, 2, 0);
            x.book(0, 0, 15, 7);
            x.run(1);
            linesAre(x, "1d0h0 p0 v0!", "1d1h0 p0 v1!", "2d0h0 p1 v0!", "15d7h0 p0 v0");
            x.run(2);
            Check.is("they are refused on their days", x.about(5), 3);
            Check.is("the last one is held", x.run(13), 1);
        });
    }

    private static void setting(String words, int what, int least, int most, int first) {
        term(words, () -> {
            Check.is("at first", new VisitHours().setting(what), first);
            Edge.inside("to", least, most, Prisons::some, (y, value) -> y.set(what, value));
            Edge.noArgument("to", least, most, Prisons::some, (y, value) -> y.set(what, value));
            VisitHours x = new VisitHours();
            for (int value = least; value <= most; value++) {
                x.set(what, value);
                Check.is("then", x.setting(what), value);
            }
        });
    }

    private static void settings() {
        setting("0: booths, 1 to 4, at first 2;", 0, 1, 4, 2);
        setting("1: each how many visitors one is searched, 1 to 9, at first 3;", 1, 1, 9, 3);
        setting("2: days of a ban, 1 to 99, at first 14;", 2, 1, 99, 14);
        setting("3: days of lost privileges, 1 to 99, at first 7;", 3, 1, 99, 7);
        setting("4: minutes of a search, 0 to 59, at first 10;", 4, 0, 59, 10);
        setting("5: minutes by which one may be late, 0 to 99, at first 15.", 5, 0, 99, 15);
    }

    private static void keptBooths() {
        term("Bookings whose booth is not below setting 0 any more keep it.", () -> {
            VisitHours x = Prisons.open(4);
            x.set(0, 4);
            for (int p = 0; p < 4; p++) {
                x.book(p, p, 1, 0);
            }
            x.set(0, 1);
            linesAre(x, "1d0h0 p0 v0", "1d0h1 p1 v1", "1d0h2 p2 v2", "1d0h3 p3 v3");
            Check.is("what becomes of the highest one", x.becomes(3), 0);
            Check.is("all are held", x.run(2), 4);
        });
    }
}
