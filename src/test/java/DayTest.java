/** Promise 23: what happens when days go by. */
public final class DayTest {
    private static final int NONE = VisitHours.NONE;

    /** This many prisoners of the rank 3, each with the visitors 0 to 9. */
    private static VisitHours prisoners(int n) {
        VisitHours x = new VisitHours();
        for (int p = 0; p < n; p++) {
            x.addPrisoner(3);
            for (int v = 0; v <= 9; v++) {
                x.list(p, v, true);
            }
        }
        return x;
    }

    /** The same with nobody searched for being the one in turn: the first eight visitors of all. */
    private static VisitHours unsearched(int n) {
        VisitHours x = prisoners(n);
        x.set(1, 9);
        return x;
    }

    private static void run() {
        VisitHours x = Check.loaded("man,3;may,0,0;book,0,0,0,0;book,0,0,1,0;book,0,0,3,0;book,0,0,30,0");
        Check.is("23 run", x.run(1), 1);
        Check.is("23 today", x.about(1), 1);
        Check.is("23 run two days", x.run(2), 1);
        Check.is("23 run 30 days", x.run(30), 2);
        Check.is("23 today", x.about(1), 33);
        Check.is("23 bookings", x.about(2), 0);
        Check.is("23 held", x.about(4), 4);
        Check.is("23 counted", x.about(8), 4);
        Check.argument("23 run 0", () -> prisoners(1), y -> y.run(0));
        Check.argument("23 run 31", () -> prisoners(1), y -> y.run(31));
        Check.argument("23 run -1", () -> prisoners(1), y -> y.run(-1));
    }

    private static void searchedInTurn() {
        VisitHours x = prisoners(6);
        for (int v = 0; v < 6; v++) {
            x.carry(v, true);
            x.book(v, v, v, 0);
        }
        x.run(6);
        Check.is("23 each third is searched, from day to day", x.about(6), 2);
        Check.is("23 the third", x.visitor(2, 2), 0);
        Check.is("23 the sixth", x.visitor(5, 2), 0);
        Check.is("23 the fourth still carries", x.visitor(3, 2), 1);
        Check.is("23 held", x.about(4), 4);
        Check.is("23 the ban", x.visitor(2, 1), 2 + 1 + 14);
        Check.is("23 the ban", x.visitor(5, 1), 5 + 1 + 14);
        Check.is("23 privileges", x.prisoner(2, 2), 2 + 1 + 7);
        Check.is("23 no strike", x.visitor(2, 0), 0);
    }

    private static void settingsOfBans() {
        VisitHours x = prisoners(1);
        x.set(1, 1);
        x.set(2, 1);
        x.set(3, 2);
        x.carry(4, true);
        x.book(0, 4, 0, 0);
        x.run(1);
        Check.is("23 ban of one day", x.visitor(4, 1), 2);
        Check.is("23 two days of lost privileges", x.prisoner(0, 2), 3);
        Check.is("23 today is banned", x.about(9), 1);
        Check.is("23 not possible on the day 1", x.whyNot(0, 4, 1, 0), 2);
        Check.is("23 not possible on the day 2", x.whyNot(0, 4, 2, 0), 2);
        Check.is("23 possible on the day 3", x.whyNot(0, 4, 3, 0), 0);
    }

    private static void lostOnTheSameDay() {
        VisitHours x = prisoners(1);
        x.set(1, 1);
        x.carry(4, true);
        x.carry(5, true);
        x.book(0, 4, 0, 0);
        x.book(0, 5, 0, 1);
        x.run(1);
        Check.is("23 the second one is refused", x.about(5), 1);
        Check.is("23 and carries on", x.visitor(5, 2), 1);
        Check.is("23 and is counted", x.about(8), 2);
        Check.is("23 one was found", x.about(6), 1);
    }

    private static void refused() {
        VisitHours x = unsearched(3);
        x.book(0, 0, 1, 0);
        x.book(1, 1, 1, 0);
        x.book(2, 2, 1, 1);
        x.late(2, 59);
        x.punish(0, 2);
        x.list(1, 1, false);
        x.keepApart(0, 1, true);
        x.promote(1, 0);
        x.punish(2, 1);
        Check.is("23 a visit off the list is held", x.run(2), 1);
        Check.is("23 refused", x.about(5), 1);
        Check.is("23 lost up to that day is not lost on it", x.about(7), 1);
        Check.is("23 a visit refused is none", x.prisoner(0, 3), 0);
        VisitHours banned = prisoners(2);
        banned.set(1, 1);
        banned.carry(3, true);
        banned.book(0, 3, 0, 0);
        banned.book(1, 3, 0, 1);
        banned.book(1, 3, 14, 0);
        banned.book(1, 3, 15, 0);
        Check.is("23 the first time behind the ban", banned.run(16), 1);
        Check.is("23 refused by the ban", banned.about(5), 2);
        Check.is("23 found", banned.about(6), 1);
        Check.is("23 the other prisoner has lost nothing", banned.prisoner(1, 2), 0);
    }

    private static void refusedIsNotSearched() {
        VisitHours x = prisoners(1);
        x.set(1, 1);
        x.carry(0, true);
        x.book(0, 0, 0, 0);
        x.late(0, 59);
        x.punish(0, 1);
        x.run(1);
        Check.is("23 refused", x.about(5), 1);
        Check.is("23 still carries", x.visitor(0, 2), 1);
        Check.is("23 no ban", x.visitor(0, 1), 0);
        Check.is("23 no strike", x.visitor(0, 0), 0);
    }

    private static int strikesAt(int minutes, int each, int search, int allowed) {
        VisitHours x = prisoners(1);
        x.set(1, each);
        x.set(4, search);
        x.set(5, allowed);
        x.book(0, 0, 0, 0);
        x.late(0, minutes);
        int held = x.run(1);
        Check.is("23 held or too late", held + x.about(7), 1);
        return x.visitor(0, 0);
    }

    private static void minutes() {
        Check.is("23 just in time", strikesAt(15, 2, 10, 15), 0);
        Check.is("23 too late by one", strikesAt(16, 2, 10, 15), 1);
        Check.is("23 searched, just in time", strikesAt(5, 1, 10, 15), 0);
        Check.is("23 searched, too late", strikesAt(6, 1, 10, 15), 1);
        Check.is("23 not late, a long search", strikesAt(0, 1, 59, 58), 1);
        Check.is("23 nobody may be late", strikesAt(1, 2, 0, 0), 1);
        Check.is("23 in time to the minute", strikesAt(0, 1, 0, 0), 0);
        Check.is("23 most of all", strikesAt(59, 1, 59, 99), 1);
        Check.is("23 nearly most of all", strikesAt(40, 1, 59, 99), 0);
    }

    private static void strikes() {
        VisitHours x = unsearched(1);
        for (int day = 0; day < 4; day++) {
            x.book(0, 0, 7 * day, 0);
            x.late(day, 16);
        }
        x.run(1);
        Check.is("23 one strike", x.visitor(0, 0), 1);
        x.run(7);
        Check.is("23 two strikes", x.visitor(0, 0), 2);
        Check.is("23 no ban", x.visitor(0, 1), 0);
        x.run(7);
        Check.is("23 none again", x.visitor(0, 0), 0);
        Check.is("23 a ban", x.visitor(0, 1), 14 + 1 + 14);
        Check.is("23 three were too late", x.about(7), 3);
        Check.is("23 no privileges are lost", x.prisoner(0, 2), 0);
        x.run(7);
        Check.is("23 the fourth is refused", x.about(5), 1);
    }

    private static void strikeOfTheSameDay() {
        VisitHours x = unsearched(2);
        x.book(0, 0, 0, 0);
        x.book(1, 0, 0, 1);
        x.late(0, 16);
        x.late(1, 6);
        x.run(1);
        Check.is("23 searched on the same day, and too late", x.visitor(0, 0), 2);
        VisitHours carrier = unsearched(2);
        carrier.book(0, 0, 0, 0);
        carrier.book(1, 0, 0, 1);
        carrier.late(0, 16);
        carrier.carry(0, true);
        carrier.run(1);
        Check.is("23 found on the same day", carrier.about(6), 1);
        Check.is("23 the strike stays", carrier.visitor(0, 0), 1);
        Check.is("23 what the second prisoner loses", carrier.prisoner(1, 2), 8);
        Check.is("23 the first loses nothing", carrier.prisoner(0, 2), 0);
    }

    private static void foundIsNotLate() {
        VisitHours x = prisoners(1);
        x.set(1, 1);
        x.carry(0, true);
        x.book(0, 0, 0, 0);
        x.late(0, 59);
        x.run(1);
        Check.is("23 found", x.about(6), 1);
        Check.is("23 and not too late", x.about(7), 0);
        Check.is("23 and no strike", x.visitor(0, 0), 0);
        Check.is("23 and not held", x.about(4), 0);
    }

    private static void heldVisitsOfTheWeek() {
        VisitHours x = Check.loaded("man,1;may,0,0;may,0,1;book,0,0,0,0;run,1");
        Check.is("23 one of two", x.whyNot(0, 0, 3, 0), 0);
        x.book(0, 1, 3, 0);
        Check.is("23 a held one and a booking", x.whyNot(0, 0, 4, 0), 4);
        Check.is("23 in the next week", x.whyNot(0, 0, 7, 0), 0);
        x.late(0, 59);
        x.run(3);
        Check.is("23 one who was too late counts no more", x.whyNot(0, 0, 4, 0), 0);
        x.run(3);
        Check.is("23 a new week", x.prisoner(0, 4), 0);
        Check.is("23 all held", x.prisoner(0, 3), 1);
    }

    private static void linesAre(String what, VisitHours x, String... due) {
        Check.is(what + ": bookings", x.about(2), due.length);
        for (int k = 0; k < due.length && k < x.about(2); k++) {
            Check.same(what + ": line " + k, Check.lineOf(x, k), due[k]);
        }
    }

    /** Lets a day go by on which no booking is possible, so that wishes become bookings of the next day. */
    private static void runWithoutToday(VisitHours x) {
        for (int p = 0; p < x.about(0); p++) {
            x.punish(p, 1);
        }
        x.run(1);
    }

    private static void wishesInOrder() {
        VisitHours x = prisoners(3);
        x.set(0, 1);
        x.set(1, 9);
        x.book(0, 0, 0, 0);
        x.book(0, 1, 0, 1);
        x.book(1, 2, 0, 2);
        x.run(1);
        x.wish(0, 0);
        x.wish(1, 1);
        x.wish(2, 3);
        x.wish(0, 5);
        x.wish(2, 2);
        int[] order = {23, 22, 11, 0, 5, NONE};
        for (int k = 0; k < order.length; k++) {
            Check.is("23 the order of wishes " + k, x.wishAt(k), order[k]);
        }
        runWithoutToday(x);
        linesAre("23 fewest visits first, then the earliest", x, "2d0h0 p2 v3", "2d1h0 p2 v2", "2d2h0 p1 v1",
                "2d3h0 p0 v0", "2d4h0 p0 v5");
        Check.is("23 no wish waits", x.about(3), 0);
    }

    private static void visitsOfOtherWeeksCount() {
        VisitHours x = prisoners(2);
        x.set(0, 1);
        x.book(0, 0, 0, 0);
        x.run(8);
        x.wish(0, 1);
        x.wish(1, 2);
        Check.is("23 all visits so far count for the order", x.wishAt(0), 12);
        runWithoutToday(x);
        linesAre("23 the one without visits first", x, "9d0h0 p1 v2", "9d1h0 p0 v1");
    }

    private static void wishesFitTogether() {
        VisitHours x = prisoners(4);
        x.keepApart(0, 1, true);
        x.wish(0, 0);
        x.wish(1, 1);
        x.wish(2, 0);
        x.wish(3, 3);
        x.wish(3, 4);
        runWithoutToday(x);
        linesAre("23 with those made just now", x, "1d0h0 p0 v0", "1d0h1 p3 v3", "1d1h0 p1 v1", "1d1h1 p2 v0",
                "1d2h0 p3 v4");
    }

    private static void wishesLookSevenDaysAhead() {
        VisitHours x = prisoners(1);
        x.wish(0, 0);
        x.punish(0, 7);
        x.run(1);
        Check.is("23 today and 7 is too far", x.about(3), 1);
        x.punish(0, 6);
        x.run(1);
        linesAre("23 today and 6", x, "7d0h0 p0 v0");
        Check.is("23 no wish waits", x.about(3), 0);
    }

    private static void someOfTenWishes() {
        VisitHours x = prisoners(3);
        x.promote(1, 0);
        int[] wishes = {10, 1, 11, 20, 12, 2, 21, 13, 3, 22};
        for (int wish : wishes) {
            x.wish(wish / 10, wish % 10);
        }
        runWithoutToday(x);
        linesAre("23 one of the rank 0, all of the others", x, "1d0h0 p1 v0", "1d0h1 p0 v1", "1d1h0 p2 v0",
                "1d1h1 p0 v2", "1d2h0 p2 v1", "1d2h1 p0 v3", "1d3h0 p2 v2");
        int[] left = {11, 12, 13, NONE};
        for (int k = 0; k < left.length; k++) {
            Check.is("23 what waits still, " + k, x.wishAt(k), left[k]);
        }
        x.wish(2, 9);
        Check.is("23 a new wish is behind them", x.wishAt(3), 29);
        x.run(6);
        x.promote(1, 3);
        x.run(1);
        Check.is("23 none waits in the next week", x.about(3), 0);
        VisitHours ten = prisoners(4);
        for (int i = 0; i < 10; i++) {
            ten.wish(i % 4, i);
        }
        Check.is("23 ten at once", ten.run(1), 10);
        Check.is("23 none is left", ten.about(3), 0);
    }

    private static void wishesOfToday() {
        VisitHours x = prisoners(1);
        x.wish(0, 0);
        Check.is("23 a wish for today is held today", x.run(1), 1);
        Check.is("23 it is gone", x.about(3), 0);
        Check.is("23 no booking is left", x.about(2), 0);
        VisitHours full = Check.loaded("man,0;may,0,0;wish,0,0;wish,0,0;wish,0,0");
        Check.is("23 one in a week", full.run(1), 1);
        Check.is("23 the second one has next week's first time", full.run(6), 0);
        Check.is("23 one waits still", full.about(3), 1);
        Check.is("23 the second one is held", full.run(1), 1);
        Check.is("23 the third one", full.run(7), 1);
    }

    private static void wishesThatWait() {
        VisitHours x = prisoners(2);
        x.wish(0, 0);
        x.wish(1, 1);
        x.wish(0, 2);
        x.list(0, 0, false);
        Check.is("23 the others do not wait for it", x.run(1), 2);
        Check.is("23 one waits", x.about(3), 1);
        Check.is("23 which one", x.wishAt(0), 0);
        x.list(0, 0, true);
        Check.is("23 on the list again", x.run(1), 1);
    }

    private static void wishesStayBehindFullBookings() {
        VisitHours x = prisoners(8);
        for (int p = 0; p < 8; p++) {
            for (int day = 7; day < 10; day++) {
                x.book(p, p, day, p / 2);
            }
        }
        x.wish(0, 9);
        x.run(1);
        Check.is("23 no place for a 25th booking", x.about(3), 1);
        x.cancel(23);
        Check.is("23 one place", x.run(1), 1);
        Check.is("23 the others stay", x.about(2), 23);
    }

    private static void laterBookingsStay() {
        VisitHours x = prisoners(1);
        x.set(1, 1);
        x.carry(0, true);
        x.book(0, 0, 0, 0);
        x.book(0, 0, 5, 0);
        x.book(0, 1, 20, 3);
        x.run(1);
        linesAre("23 later bookings stay", x, "5d0h0 p0 v0!", "20d3h0 p0 v1");
    }

    public static void main(String[] args) {
        run();
        searchedInTurn();
        settingsOfBans();
        lostOnTheSameDay();
        refused();
        refusedIsNotSearched();
        minutes();
        strikes();
        strikeOfTheSameDay();
        foundIsNotLate();
        heldVisitsOfTheWeek();
        wishesInOrder();
        visitsOfOtherWeeksCount();
        wishesFitTogether();
        wishesLookSevenDaysAhead();
        someOfTenWishes();
        wishesOfToday();
        wishesThatWait();
        wishesStayBehindFullBookings();
        laterBookingsStay();
        Check.end();
    }
}
