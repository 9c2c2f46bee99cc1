/** Promises 1 and 6 to 12: what there is. */
public final class LookTest {
    private static final int NONE = VisitHours.NONE;

    private static void newObject() {
        VisitHours x = new VisitHours();
        for (int what = 0; what <= 10; what++) {
            Check.is("1 about " + what, x.about(what), 0);
        }
        int[] first = {2, 3, 14, 7, 10, 15};
        for (int what = 0; what <= 5; what++) {
            Check.is("1 setting " + what, x.setting(what), first[what]);
        }
        for (int v = 0; v <= 9; v++) {
            for (int what = 0; what <= 4; what++) {
                Check.is("1 visitor " + v + " " + what, x.visitor(v, what), 0);
            }
        }
        Check.is("1 wishAt", x.wishAt(0), NONE);
        Check.is("1 errorPosition", x.errorPosition(), 0);
        Check.state("1 undo", VisitHours::new, VisitHours::undo);
        Check.state("1 restore 0", VisitHours::new, y -> y.restore(0));
        Check.state("1 restore 1", VisitHours::new, y -> y.restore(1));
        Check.is("1 NONE", VisitHours.NONE, -1);
    }

    /** One day on which each fate happens: two held, one found, one refused, one too late. */
    static VisitHours afterADay() {
        VisitHours x = new VisitHours();
        x.addPrisoner(3);
        x.addPrisoner(2);
        x.addPrisoner(0);
        for (int v = 0; v <= 3; v++) {
            x.list(0, v, true);
        }
        x.list(1, 4, true);
        x.list(1, 5, true);
        x.list(2, 6, true);
        x.list(2, 0, true);
        x.keepApart(0, 2, true);
        x.carry(2, true);
        x.carry(9, true);
        x.book(0, 0, 0, 0);
        x.book(1, 4, 0, 0);
        x.book(0, 2, 0, 1);
        x.book(0, 1, 0, 2);
        x.book(1, 5, 0, 3);
        x.late(4, 16);
        x.run(1);
        x.book(1, 4, 5, 6);
        x.book(2, 0, 5, 6);
        x.book(2, 6, 12, 7);
        x.late(2, 59);
        x.book(1, 5, 13, 0);
        x.wish(0, 0);
        x.wish(1, 4);
        x.wish(0, 3);
        x.wish(2, 0);
        x.wish(0, 0);
        return x;
    }

    private static void all(String what, VisitHours x, int[] due) {
        for (int i = 0; i < due.length; i++) {
            Check.is("6 about " + i + " " + what, x.about(i), due[i]);
        }
    }

    private static void about() {
        all("behind a day", afterADay(), new int[] {3, 1, 4, 5, 2, 1, 1, 1, 5, 1, 1});
        VisitHours x = afterADay();
        x.punish(1, 1);
        Check.is("6 two have lost something", x.about(10), 2);
        x.punish(1, 0);
        Check.is("6 lost up to today is not lost today", x.about(10), 1);
        x.punish(0, 0);
        Check.is("6 nobody has lost something", x.about(10), 0);
        Check.argument("6 about -1", LookTest::afterADay, y -> y.about(-1));
        Check.argument("6 about 11", LookTest::afterADay, y -> y.about(11));
        Check.looks("6 about changes nothing", 3, LookTest::afterADay, y -> y.about(0));
    }

    private static void banEnds() {
        VisitHours x = afterADay();
        x.run(13);
        Check.is("6 the last day of the ban", x.about(9), 1);
        Check.is("6 it is the day 14", x.about(1), 14);
        x.run(1);
        Check.is("6 the ban is over", x.about(9), 0);
        Check.is("8 the day up to which it was stays", x.visitor(2, 1), 15);
    }

    private static void prisonerIs(VisitHours x, int p, int[] due) {
        for (int what = 0; what < due.length; what++) {
            Check.is("7 prisoner " + p + " " + what, x.prisoner(p, what), due[what]);
        }
    }

    private static void prisoner() {
        VisitHours x = afterADay();
        prisonerIs(x, 0, new int[] {3, 15, 8, 1, 1, 0, 3, 4});
        prisonerIs(x, 1, new int[] {2, 48, 0, 1, 2, 2, 1, 0});
        prisonerIs(x, 2, new int[] {0, 65, 0, 0, 1, 2, 1, 1});
        Check.index("7 prisoner -1", LookTest::afterADay, y -> y.prisoner(-1, 0));
        Check.index("7 prisoner 3", LookTest::afterADay, y -> y.prisoner(3, 0));
        Check.index("7 prisoner of none", VisitHours::new, y -> y.prisoner(0, 0));
        Check.index("7 prisoner 3 and what 8", LookTest::afterADay, y -> y.prisoner(3, 8));
        Check.argument("7 what -1", LookTest::afterADay, y -> y.prisoner(0, -1));
        Check.argument("7 what 8", LookTest::afterADay, y -> y.prisoner(0, 8));
        Check.looks("7 prisoner changes nothing", 15, LookTest::afterADay, y -> y.prisoner(0, 1));
    }

    private static void visitsOfTheWeek() {
        VisitHours x = Check.loaded("man,3;may,0,0;book,0,0,0,0;book,0,0,6,7;book,0,0,7,0;book,0,0,13,0;book,0,0,14,0");
        Check.is("7 only those of the week", x.prisoner(0, 4), 2);
        x.run(1);
        Check.is("7 one held, one booked", x.prisoner(0, 4), 2);
        x.run(5);
        Check.is("7 the last day of the week", x.prisoner(0, 4), 2);
        x.run(1);
        Check.is("7 the next week", x.prisoner(0, 4), 2);
        Check.is("7 all held", x.prisoner(0, 3), 2);
        x.cancel(0);
        Check.is("7 cancelled is none", x.prisoner(0, 4), 1);
        x.run(7);
        Check.is("7 the third week", x.prisoner(0, 4), 1);
        Check.is("7 bookings left", x.prisoner(0, 5), 1);
    }

    private static void visitorIs(VisitHours x, int v, int[] due) {
        for (int what = 0; what < due.length; what++) {
            Check.is("8 visitor " + v + " " + what, x.visitor(v, what), due[what]);
        }
    }

    private static void visitor() {
        VisitHours x = afterADay();
        visitorIs(x, 0, new int[] {0, 0, 0, 1, 5});
        visitorIs(x, 2, new int[] {0, 15, 0, 0, 1});
        visitorIs(x, 4, new int[] {0, 0, 0, 1, 2});
        visitorIs(x, 5, new int[] {1, 0, 0, 1, 2});
        visitorIs(x, 9, new int[] {0, 0, 1, 0, 0});
        Check.index("8 visitor -1", LookTest::afterADay, y -> y.visitor(-1, 0));
        Check.index("8 visitor 10", LookTest::afterADay, y -> y.visitor(10, 0));
        Check.index("8 visitor 10 and what 5", LookTest::afterADay, y -> y.visitor(10, 5));
        Check.argument("8 what -1", LookTest::afterADay, y -> y.visitor(0, -1));
        Check.argument("8 what 5", LookTest::afterADay, y -> y.visitor(0, 5));
        Check.looks("8 visitor changes nothing", 15, LookTest::afterADay, y -> y.visitor(2, 1));
    }

    private static void bookingIs(VisitHours x, int k, int[] due) {
        for (int what = 0; what < due.length; what++) {
            Check.is("9 booking " + k + " " + what, x.booking(k, what), due[what]);
        }
    }

    private static void booking() {
        VisitHours x = afterADay();
        bookingIs(x, 0, new int[] {5, 6, 0, 1, 4, 0});
        bookingIs(x, 1, new int[] {5, 6, 1, 2, 0, 0});
        bookingIs(x, 2, new int[] {12, 7, 0, 2, 6, 59});
        bookingIs(x, 3, new int[] {13, 0, 0, 1, 5, 0});
        Check.index("9 booking -1", LookTest::afterADay, y -> y.booking(-1, 0));
        Check.index("9 booking 4", LookTest::afterADay, y -> y.booking(4, 0));
        Check.index("9 booking 4 and what 6", LookTest::afterADay, y -> y.booking(4, 6));
        Check.index("9 booking of none", VisitHours::new, y -> y.booking(0, 0));
        Check.argument("9 what -1", LookTest::afterADay, y -> y.booking(0, -1));
        Check.argument("9 what 6", LookTest::afterADay, y -> y.booking(0, 6));
        Check.looks("9 booking changes nothing", 59, LookTest::afterADay, y -> y.booking(2, 5));
    }

    private static void order() {
        VisitHours x = new VisitHours();
        for (int p = 0; p < 4; p++) {
            x.addPrisoner(3);
            x.list(p, p, true);
        }
        x.book(0, 0, 9, 1);
        x.book(1, 1, 10, 0);
        x.book(2, 2, 9, 0);
        x.book(3, 3, 9, 1);
        x.book(0, 0, 2, 7);
        x.book(1, 1, 9, 0);
        String[] due = {"2d7h0 p0 v0", "9d0h0 p2 v2", "9d0h1 p1 v1", "9d1h0 p0 v0", "9d1h1 p3 v3", "10d0h0 p1 v1"};
        for (int k = 0; k < due.length; k++) {
            Check.same("9 the order, " + k, Check.lineOf(x, k), due[k]);
        }
        x.cancel(1);
        x.book(3, 3, 9, 0);
        Check.same("9 the lowest booth again", Check.lineOf(x, 1), "9d0h0 p3 v3");
        Check.same("9 the higher booth stays", Check.lineOf(x, 2), "9d0h1 p1 v1");
    }

    private static void line() {
        VisitHours x = afterADay();
        Check.same("10 line", Check.lineOf(x, 0), "5d6h0 p1 v4");
        Check.same("10 line of the booth 1", Check.lineOf(x, 1), "5d6h1 p2 v0");
        Check.same("10 line of one who is late", Check.lineOf(x, 2), "12d7h0 p2 v6+59");
        x.punish(2, 5);
        Check.same("10 privileges lost up to the day ahead", Check.lineOf(x, 1), "5d6h1 p2 v0!");
        x.punish(2, 4);
        Check.same("10 privileges lost up to that day", Check.lineOf(x, 1), "5d6h1 p2 v0");
        x.punish(2, 12);
        Check.same("10 late and lost", Check.lineOf(x, 2), "12d7h0 p2 v6+59!");
        x.book(1, 4, 9999, 7);
        Check.same("10 a far day", Check.lineOf(x, 4), "9999d7h0 p1 v4");
        x.late(4, 5);
        Check.same("10 late by one digit", Check.lineOf(x, 4), "9999d7h0 p1 v4+5");
        Check.is("10 behind the line", x.line(0, 11), NONE);
        Check.is("10 far behind the line", x.line(0, Integer.MAX_VALUE), NONE);
        x.late(4, 1);
        Check.same("10 late by one minute", Check.lineOf(x, 4), "9999d7h0 p1 v4+1");
        Check.index("10 line of -1", LookTest::afterADay, y -> y.line(-1, 0));
        Check.index("10 line of 4", LookTest::afterADay, y -> y.line(4, 0));
        Check.index("10 line of 4 at -1", LookTest::afterADay, y -> y.line(4, -1));
        Check.argument("10 line at -1", LookTest::afterADay, y -> y.line(0, -1));
        Check.argument("10 line at the least int", LookTest::afterADay, y -> y.line(0, Integer.MIN_VALUE));
        Check.looks("10 line changes nothing", 'd', LookTest::afterADay, y -> y.line(0, 1));
    }

    private static void lineOfTheBanned() {
        VisitHours x = Check.loaded("man,3;man,3;may,0,0;may,1,0;has,0;book,0,0,0,0;book,1,0,14,0;book,1,0,15,0");
        x.set(1, 1);
        Check.same("10 no ban yet", Check.lineOf(x, 1), "14d0h0 p1 v0");
        x.run(1);
        Check.same("10 a ban on that day", Check.lineOf(x, 0), "14d0h0 p1 v0!");
        Check.same("10 a ban up to that day", Check.lineOf(x, 1), "15d0h0 p1 v0");
    }

    private static void wishAt() {
        VisitHours x = afterADay();
        // The prisoners 0 and 1 had one visit each, the prisoner 2 none.
        int[] due = {20, 0, 14, 3, 0, NONE, NONE};
        for (int k = 0; k < due.length; k++) {
            Check.is("11 wishAt " + k, x.wishAt(k), due[k]);
        }
        Check.is("11 wishAt, the greatest int", x.wishAt(Integer.MAX_VALUE), NONE);
        Check.argument("11 wishAt -1", LookTest::afterADay, y -> y.wishAt(-1));
        Check.looks("11 wishAt changes nothing", 14, LookTest::afterADay, y -> y.wishAt(2));
    }

    private static void setting() {
        VisitHours x = new VisitHours();
        x.set(3, 55);
        Check.is("12 setting", x.setting(3), 55);
        Check.is("12 another one", x.setting(2), 14);
        Check.argument("12 setting -1", VisitHours::new, y -> y.setting(-1));
        Check.argument("12 setting 6", VisitHours::new, y -> y.setting(6));
    }

    public static void main(String[] args) {
        newObject();
        about();
        banEnds();
        prisoner();
        visitsOfTheWeek();
        visitor();
        booking();
        order();
        line();
        lineOfTheBanned();
        wishAt();
        setting();
        Check.end();
    }
}
