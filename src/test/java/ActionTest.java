/** Promises 13 to 22, 24 and 25: the actions but run, and undo. */
public final class ActionTest {
    private static final int LEAST = Integer.MIN_VALUE;
    private static final int GREATEST = Integer.MAX_VALUE;

    /** Two prisoners with the visitors 0 and 1, one booking each, on the day 3 of 4. */
    private static VisitHours two() {
        return Check.loaded("man,2;man,1;may,0,0;may,0,1;may,1,0;may,1,1;run,3;book,0,0,3,0;book,1,1,4,0");
    }

    private static void addPrisoner() {
        VisitHours x = new VisitHours();
        for (int p = 0; p < 8; p++) {
            Check.is("13 addPrisoner", x.addPrisoner(p % 4), p);
            Check.is("13 its rank", x.prisoner(p, 0), p % 4);
            Check.is("13 its list", x.prisoner(p, 1), 0);
        }
        Check.is("13 prisoners", x.about(0), 8);
        Check.same("13 the ninth", Check.outcome(x, y -> y.addPrisoner(0)), "IllegalStateException");
        Check.same("13 a wrong ninth", Check.outcome(x, y -> y.addPrisoner(4)), "IllegalArgumentException");
        Check.state("13 the ninth", ActionTest::eight, y -> y.addPrisoner(3));
        Check.argument("13 rank 4 with 8", ActionTest::eight, y -> y.addPrisoner(4));
        Check.argument("13 rank 4", ActionTest::two, y -> y.addPrisoner(4));
        Check.argument("13 rank -1", ActionTest::two, y -> y.addPrisoner(-1));
    }

    private static VisitHours eight() {
        return Check.loaded("man,0;man,0;man,0;man,0;man,0;man,0;man,0;man,0");
    }

    private static void promote() {
        VisitHours x = two();
        Check.is("14 promote", x.promote(0, 0), 2);
        Check.is("14 promote again", x.promote(0, 3), 0);
        Check.is("14 rank", x.prisoner(0, 0), 3);
        Check.is("14 the other one", x.prisoner(1, 0), 1);
        VisitHours low = Check.loaded("man,3;may,0,0;book,0,0,0,0;book,0,0,1,0;book,0,0,2,0");
        low.promote(0, 0);
        Check.is("14 bookings stay", low.about(2), 3);
        Check.is("14 no more are possible", low.whyNot(0, 0, 3, 0), 4);
        Check.index("14 prisoner -1", ActionTest::two, y -> y.promote(-1, 0));
        Check.index("14 prisoner 2", ActionTest::two, y -> y.promote(2, 0));
        Check.index("14 prisoner 2, rank 4", ActionTest::two, y -> y.promote(2, 4));
        Check.argument("14 rank 4", ActionTest::two, y -> y.promote(0, 4));
        Check.argument("14 rank -1", ActionTest::two, y -> y.promote(0, -1));
    }

    private static void list() {
        VisitHours x = two();
        Check.is("15 list", x.list(0, 9, true), 515);
        Check.is("15 list again", x.list(0, 9, true), 515);
        Check.is("15 off", x.list(0, 0, false), 514);
        Check.is("15 off again", x.list(0, 0, false), 514);
        Check.is("15 bookings stay", x.about(2), 2);
        Check.is("15 no new one", x.whyNot(0, 0, 9, 0), 1);
        Check.is("15 the visit is held", x.run(1), 1);
        Check.is("15 the other list", x.prisoner(1, 1), 3);
        Check.index("15 prisoner -1", ActionTest::two, y -> y.list(-1, 0, true));
        Check.index("15 prisoner 2", ActionTest::two, y -> y.list(2, 0, true));
        Check.index("15 visitor -1", ActionTest::two, y -> y.list(0, -1, true));
        Check.index("15 visitor 10", ActionTest::two, y -> y.list(0, 10, false));
    }

    private static void keepApart() {
        VisitHours x = eight();
        Check.is("16 keepApart", x.keepApart(0, 7, true), 128);
        Check.is("16 one more", x.keepApart(0, 1, true), 130);
        Check.is("16 once more", x.keepApart(1, 0, true), 1);
        Check.is("16 from the other side", x.prisoner(7, 7), 1);
        Check.is("16 no longer, from the other side", x.keepApart(7, 0, false), 0);
        Check.is("16 what is left", x.prisoner(0, 7), 2);
        Check.is("16 not apart stays so", x.keepApart(3, 4, false), 0);
        VisitHours y2 = Check.loaded("man,2;man,1;may,0,0;may,1,1;book,0,0,3,0;book,1,1,3,0");
        y2.keepApart(0, 1, true);
        Check.is("16 bookings stay", y2.about(2), 2);
        Check.is("16 both are held", y2.run(4), 2);
        Check.index("16 p -1", ActionTest::two, y -> y.keepApart(-1, 0, true));
        Check.index("16 p 2", ActionTest::two, y -> y.keepApart(2, 0, true));
        Check.index("16 q -1", ActionTest::two, y -> y.keepApart(0, -1, true));
        Check.index("16 q 2", ActionTest::two, y -> y.keepApart(0, 2, true));
        Check.index("16 both 2", ActionTest::two, y -> y.keepApart(2, 2, true));
        Check.state("16 both the same", ActionTest::two, y -> y.keepApart(1, 1, true));
        Check.state("16 both the same, not apart", ActionTest::two, y -> y.keepApart(1, 1, false));
    }

    private static void book() {
        VisitHours x = two();
        Check.is("17 book in an hour of its own", x.book(0, 0, 4, 1), 0);
        Check.is("17 book beside another one", x.book(0, 0, 4, 0), 1);
        Check.is("17 book on the last day", x.book(1, 1, 9999, 7), 0);
        Check.is("17 bookings", x.about(2), 5);
        Check.same("17 its line", Check.lineOf(x, 2), "4d0h1 p0 v0");
        Check.index("17 prisoner -1", ActionTest::two, y -> y.book(-1, 0, 3, 0));
        Check.index("17 prisoner 2", ActionTest::two, y -> y.book(2, 0, 3, 0));
        Check.index("17 visitor -1", ActionTest::two, y -> y.book(0, -1, 3, 0));
        Check.index("17 visitor 10", ActionTest::two, y -> y.book(0, 10, 3, 0));
        Check.index("17 visitor 10 on a wrong day", ActionTest::two, y -> y.book(0, 10, 2, 8));
        Check.argument("17 yesterday", ActionTest::two, y -> y.book(0, 0, 2, 0));
        Check.argument("17 day -1", ActionTest::two, y -> y.book(0, 0, -1, 0));
        Check.argument("17 day 10000", ActionTest::two, y -> y.book(0, 0, 10000, 0));
        Check.argument("17 the greatest day", ActionTest::two, y -> y.book(0, 0, GREATEST, 0));
        Check.argument("17 hour -1", ActionTest::two, y -> y.book(0, 0, 3, -1));
        Check.argument("17 hour 8", ActionTest::two, y -> y.book(0, 0, 3, 8));
        Check.argument("17 hour 8, not on the list", ActionTest::two, y -> y.book(0, 5, 3, 8));
        Check.state("17 not on the list", ActionTest::two, y -> y.book(0, 5, 3, 3));
        Check.state("17 the hour is taken", ActionTest::two, y -> y.book(0, 1, 3, 0));
    }

    private static void keptBooths() {
        VisitHours x = new VisitHours();
        for (int p = 0; p < 6; p++) {
            x.addPrisoner(3);
            x.list(p, p, true);
        }
        x.set(0, 4);
        for (int p = 0; p < 4; p++) {
            Check.is("17 booths from the lowest on", x.book(p, p, 1, 1), p);
        }
        x.set(0, 2);
        Check.is("17 a booth above the booths is kept", x.booking(3, 2), 3);
        Check.is("17 no booth is free", x.whyNot(4, 4, 1, 1), 7);
        x.cancel(0);
        Check.is("17 those above take none", x.whyNot(4, 4, 1, 1), 0);
        Check.is("17 the lowest one", x.book(4, 4, 1, 1), 0);
        Check.is("17 none again", x.whyNot(5, 5, 1, 1), 7);
        x.cancel(1);
        x.set(0, 3);
        Check.is("17 the one between", x.book(5, 5, 1, 1), 1);
        x.set(0, 1);
        x.cancel(0);
        x.cancel(0);
        Check.is("17 the lowest, with one booth", x.book(4, 4, 1, 1), 0);
    }

    private static void cancel() {
        VisitHours x = Check.loaded("man,3;may,0,0;may,0,1;may,0,2;book,0,0,1,0;book,0,1,2,0;book,0,2,3,0");
        x.late(2, 7);
        Check.is("18 cancel", x.cancel(1), 2);
        Check.same("18 what is behind comes nearer", Check.lineOf(x, 1), "3d0h0 p0 v2+7");
        Check.same("18 what is ahead stays", Check.lineOf(x, 0), "1d0h0 p0 v0");
        Check.is("18 the last one", x.cancel(1), 1);
        Check.is("18 the only one", x.cancel(0), 0);
        Check.is("18 a new one is not late", x.book(0, 2, 3, 0), 0);
        Check.same("18 its line", Check.lineOf(x, 0), "3d0h0 p0 v2");
        Check.index("18 cancel -1", ActionTest::two, y -> y.cancel(-1));
        Check.index("18 cancel 2", ActionTest::two, y -> y.cancel(2));
        Check.index("18 cancel, none there", VisitHours::new, y -> y.cancel(0));
    }

    private static void late() {
        VisitHours x = two();
        Check.is("19 late", x.late(1, 59), 0);
        Check.is("19 late again", x.late(1, 0), 59);
        Check.is("19 and again", x.late(1, 30), 0);
        Check.is("19 minutes", x.booking(1, 5), 30);
        Check.is("19 of the other one", x.booking(0, 5), 0);
        Check.index("19 late -1", ActionTest::two, y -> y.late(-1, 5));
        Check.index("19 late 2", ActionTest::two, y -> y.late(2, 5));
        Check.index("19 late 2 by 60", ActionTest::two, y -> y.late(2, 60));
        Check.argument("19 late by 60", ActionTest::two, y -> y.late(0, 60));
        Check.argument("19 late by -1", ActionTest::two, y -> y.late(0, -1));
    }

    private static void carry() {
        VisitHours x = new VisitHours();
        Check.is("20 carry", x.carry(9, true), 512);
        Check.is("20 one more", x.carry(0, true), 513);
        Check.is("20 once more", x.carry(0, true), 513);
        Check.is("20 no more", x.carry(9, false), 1);
        Check.is("20 no more, again", x.carry(9, false), 1);
        Check.index("20 visitor -1", ActionTest::two, y -> y.carry(-1, true));
        Check.index("20 visitor 10", ActionTest::two, y -> y.carry(10, true));
        Check.index("20 the least visitor", ActionTest::two, y -> y.carry(LEAST, false));
    }

    private static void punish() {
        VisitHours x = two();
        Check.is("21 punish", x.punish(0, 99), 0);
        Check.is("21 lost up to", x.prisoner(0, 2), 102);
        Check.is("21 instead of what there was", x.punish(0, 1), 102);
        Check.is("21 lost up to", x.prisoner(0, 2), 4);
        Check.is("21 by no days", x.punish(0, 0), 4);
        Check.is("21 lost up to today", x.prisoner(0, 2), 3);
        Check.is("21 not lost today", x.about(10), 0);
        Check.is("21 the other one", x.prisoner(1, 2), 0);
        Check.index("21 prisoner -1", ActionTest::two, y -> y.punish(-1, 5));
        Check.index("21 prisoner 2", ActionTest::two, y -> y.punish(2, 5));
        Check.index("21 prisoner 2 by 100", ActionTest::two, y -> y.punish(2, 100));
        Check.argument("21 by 100", ActionTest::two, y -> y.punish(0, 100));
        Check.argument("21 by -1", ActionTest::two, y -> y.punish(0, -1));
    }

    private static VisitHours tenWishes() {
        VisitHours x = Check.loaded("man,0;may,0,0;may,0,1");
        for (int i = 1; i <= 10; i++) {
            Check.is("22 wish", x.wish(0, i % 2), i);
        }
        return x;
    }

    private static void wish() {
        VisitHours x = tenWishes();
        Check.is("22 the first", x.wishAt(0), 1);
        Check.is("22 the last", x.wishAt(9), 0);
        x.list(0, 0, false);
        Check.is("22 a wish stays when the list changes", x.about(3), 10);
        Check.index("22 prisoner -1", ActionTest::tenWishes, y -> y.wish(-1, 0));
        Check.index("22 prisoner 1", ActionTest::tenWishes, y -> y.wish(1, 0));
        Check.index("22 visitor 10", ActionTest::tenWishes, y -> y.wish(0, 10));
        Check.index("22 visitor -1", ActionTest::tenWishes, y -> y.wish(0, -1));
        Check.state("22 the eleventh", ActionTest::tenWishes, y -> y.wish(0, 0));
        Check.state("22 not on the list", ActionTest::two, y -> y.wish(0, 2));
        Check.is("22 a wish while privileges are lost", punished().wish(0, 0), 1);
    }

    private static VisitHours punished() {
        VisitHours x = two();
        x.punish(0, 99);
        return x;
    }

    private static void set() {
        int[] least = {1, 1, 1, 1, 0, 0};
        int[] most = {4, 9, 99, 99, 59, 99};
        int[] first = {2, 3, 14, 7, 10, 15};
        for (int what = 0; what <= 5; what++) {
            int setting = what;
            VisitHours x = new VisitHours();
            Check.is("24 set " + what + " to the most", x.set(what, most[what]), first[what]);
            Check.is("24 set " + what + " to the least", x.set(what, least[what]), most[what]);
            Check.is("24 setting " + what, x.setting(what), least[what]);
            Check.argument("24 set " + what + " above", ActionTest::two, y -> y.set(setting, most[setting] + 1));
            Check.argument("24 set " + what + " below", ActionTest::two, y -> y.set(setting, least[setting] - 1));
        }
        Check.argument("24 set -1", ActionTest::two, y -> y.set(-1, 1));
        Check.argument("24 set 6", ActionTest::two, y -> y.set(6, 1));
    }

    private static void undoEach() {
        Check.Call[] calls = {y -> y.addPrisoner(3), y -> y.promote(0, 3), y -> y.list(0, 9, true),
            y -> y.list(0, 0, false), y -> y.keepApart(0, 1, true), y -> y.book(0, 0, 5, 5), y -> y.cancel(0),
            y -> y.late(0, 59), y -> y.carry(3, true), y -> y.punish(0, 9), y -> y.wish(0, 0), y -> y.run(9),
            y -> y.set(4, 0), y -> y.promote(0, 2), y -> y.carry(3, false), y -> y.keepApart(0, 1, false)};
        for (int i = 0; i < calls.length; i++) {
            VisitHours x = two();
            calls[i].on(x);
            Check.is("25 undo of the action " + i, x.undo(), 0);
            Check.same("25 as before the action " + i, Check.visible(x), Check.visible(two()));
        }
    }

    private static void undoMany() {
        VisitHours x = new VisitHours();
        for (int i = 0; i < 16; i++) {
            x.set(5, i);
        }
        for (int left = 13; left >= 0; left--) {
            Check.is("25 undo", x.undo(), left);
            Check.is("25 setting behind it", x.setting(5), left + 1);
        }
        Check.same("25 the oldest are forgotten", Check.outcome(x, VisitHours::undo), "IllegalStateException");
        Check.is("25 a new action", x.set(5, 50), 1);
        Check.is("25 and its undo", x.undo(), 0);
        Check.is("25 setting behind it", x.setting(5), 1);
    }

    private static void undoAndFailures() {
        VisitHours x = new VisitHours();
        for (int i = 0; i < 14; i++) {
            x.set(5, i);
        }
        for (int i = 0; i < 20; i++) {
            Check.outcome(x, y -> y.set(5, 100));
            Check.outcome(x, y -> y.cancel(0));
        }
        for (int left = 13; left >= 0; left--) {
            Check.is("25 what throws is no action", x.undo(), left);
        }
        Check.is("25 the first setting", x.setting(5), 15);
    }

    private static void noActions() {
        VisitHours x = two();
        x.set(5, 20);
        x.save(0);
        x.whyNot(0, 0, 3, 0);
        x.firstTime(0, 0);
        x.coming(30, 0);
        x.becomes(0);
        x.runScript(1, 60030);
        x.simulate(1, 60);
        x.append('a');
        x.clearText();
        Check.is("25 only actions are taken back", x.undo(), 0);
        Check.is("25 setting", x.setting(5), 15);
        Check.state("25 nothing is remembered", ActionTest::two, VisitHours::undo);
        VisitHours kept = two();
        kept.save(1);
        kept.append('x');
        kept.run(1);
        kept.undo();
        Check.is("25 keeps the text", kept.errorPosition(), kept.clearText() - 1);
        Check.is("25 keeps the slots", kept.restore(1), 3);
    }

    public static void main(String[] args) {
        addPrisoner();
        promote();
        list();
        keepApart();
        book();
        keptBooths();
        cancel();
        late();
        carry();
        punish();
        wish();
        set();
        undoEach();
        undoMany();
        undoAndFailures();
        noActions();
        Check.end();
    }
}
