/** Promises 26 to 31: what would be, scripts, simulations. */
public final class AheadTest {
    private static final int NONE = VisitHours.NONE;

    /** Three prisoners of the ranks 3, 1, 0 with the visitors 0 to 2; today is 2, a booking in the hour 0. */
    private static VisitHours three() {
        return Check.loaded("man,3;man,1;man,0;may,0,0;may,1,1;may,2,2;may,1,0;may,2,0;run,2;book,0,0,2,0");
    }

    private static void reason(String what, int due, VisitHours x, int p, int v, int day, int hour) {
        Check.is("26 " + what, x.whyNot(p, v, day, hour), due);
        String booked = Check.outcome(x, y -> y.book(p, v, day, hour));
        Check.is("17 and 26 are alike, " + what, booked.equals("IllegalStateException") ? 1 : 0, due == 0 ? 0 : 1);
        if (due == 0) {
            x.undo();
        }
    }

    private static void reasons() {
        VisitHours x = three();
        reason("possible", 0, x, 1, 1, 2, 0);
        reason("not on the list", 1, x, 0, 1, 2, 0);
        x.punish(0, 3);
        reason("not on the list and privileges lost", 1, x, 0, 1, 2, 0);
        reason("privileges lost", 2, x, 0, 0, 4, 0);
        reason("privileges not lost any more", 0, x, 0, 0, 5, 0);
        x.punish(0, 0);
        reason("the prisoner has a booking then", 5, x, 0, 0, 2, 0);
        reason("the visitor has a booking then", 5, x, 1, 0, 2, 0);
        reason("the same visitor an hour later", 0, x, 1, 0, 2, 1);
        x.keepApart(0, 1, true);
        reason("apart", 6, x, 1, 1, 2, 0);
        reason("apart, and the visitor has a booking then", 5, x, 1, 0, 2, 0);
        reason("apart, in another hour", 0, x, 1, 1, 2, 1);
        reason("apart, on another day", 0, x, 1, 1, 3, 0);
        reason("one who is not apart", 0, x, 2, 2, 2, 0);
        x.set(0, 1);
        reason("no booth is free", 7, x, 2, 2, 2, 0);
        reason("apart, and no booth is free", 6, x, 1, 1, 2, 0);
        x.book(2, 2, 6, 7);
        reason("as many visits as the rank and 1", 4, x, 2, 2, 2, 0);
        reason("on the last day of the week", 4, x, 2, 2, 6, 0);
        reason("in the next week", 0, x, 2, 2, 7, 0);
        x.promote(2, 1);
        reason("a higher rank", 0, x, 2, 2, 6, 0);
        x.promote(2, 0);
        reason("too many visits, and the visitor has a booking then", 4, x, 2, 0, 2, 0);
    }

    private static void reasonOfBan() {
        VisitHours x = Check.loaded("man,0;man,0;may,0,0;may,1,0;may,1,1;has,0;book,0,0,0,0");
        x.set(1, 1);
        x.run(1);
        reason("banned", 3, x, 1, 0, 14, 0);
        reason("the ban is over", 0, x, 1, 0, 15, 0);
        reason("privileges lost, and banned", 2, x, 0, 0, 7, 0);
        reason("only banned", 3, x, 0, 0, 8, 0);
        reason("another visitor", 0, x, 1, 1, 14, 0);
        x.book(1, 1, 14, 5);
        reason("banned, and too many visits", 3, x, 1, 0, 14, 5);
    }

    private static VisitHours full() {
        VisitHours x = new VisitHours();
        for (int p = 0; p < 8; p++) {
            x.addPrisoner(3);
            x.list(p, p, true);
        }
        for (int k = 0; k < 24; k++) {
            x.book(k % 6, k % 6, k / 6, k % 6 / 2);
        }
        return x;
    }

    private static void reasonOfFull() {
        VisitHours x = full();
        Check.is("26 bookings", x.about(2), 24);
        reason("24 bookings", 8, x, 6, 6, 0, 7);
        reason("24 bookings, on a far day", 8, x, 0, 0, 9999, 7);
        reason("no booth is free, and 24 bookings", 7, x, 6, 6, 0, 0);
        reason("too many visits, and 24 bookings", 4, x, 5, 5, 5, 7);
        Check.is("27 no time with 24 bookings", x.firstTime(6, 6), NONE);
        x.cancel(9);
        reason("23 bookings", 0, x, 6, 6, 0, 7);
        Check.is("27 with 23 bookings", x.firstTime(6, 6), 3);
    }

    private static void whyNotArguments() {
        Check.looks("26 whyNot changes nothing", 5, AheadTest::three, y -> y.whyNot(0, 0, 2, 0));
        Check.looks("26 the last day", 0, AheadTest::three, y -> y.whyNot(0, 0, 9999, 7));
        Check.index("26 prisoner -1", AheadTest::three, y -> y.whyNot(-1, 0, 2, 0));
        Check.index("26 prisoner 3", AheadTest::three, y -> y.whyNot(3, 0, 2, 0));
        Check.index("26 visitor -1", AheadTest::three, y -> y.whyNot(0, -1, 2, 0));
        Check.index("26 visitor 10", AheadTest::three, y -> y.whyNot(0, 10, 2, 0));
        Check.index("26 visitor 10, hour 8", AheadTest::three, y -> y.whyNot(0, 10, 2, 8));
        Check.argument("26 yesterday", AheadTest::three, y -> y.whyNot(0, 0, 1, 0));
        Check.argument("26 day 10000", AheadTest::three, y -> y.whyNot(0, 0, 10000, 0));
        Check.argument("26 hour -1", AheadTest::three, y -> y.whyNot(0, 0, 2, -1));
        Check.argument("26 hour 8", AheadTest::three, y -> y.whyNot(0, 0, 2, 8));
        Check.argument("26 hour 8, not on the list", AheadTest::three, y -> y.whyNot(0, 9, 2, 8));
    }

    private static void firstTime() {
        VisitHours x = three();
        Check.is("27 the first hour of today", x.firstTime(1, 1), 16);
        Check.is("27 the next hour", x.firstTime(0, 0), 17);
        Check.is("27 not on the list", x.firstTime(0, 1), NONE);
        x.punish(0, 59);
        Check.is("27 today and 59", x.firstTime(0, 0), 8 * 61);
        x.punish(0, 60);
        Check.is("27 today and 60", x.firstTime(0, 0), NONE);
        x.book(2, 2, 2, 7);
        Check.is("27 the next week", x.firstTime(2, 2), 56);
        VisitHours last = Check.loaded("man,3;man,3;may,0,0;may,1,1;run,1");
        last.set(0, 1);
        last.keepApart(0, 1, true);
        last.punish(0, 59);
        for (int hour = 0; hour < 4; hour++) {
            last.book(1, 1, 60, hour);
        }
        Check.is("27 a later hour of the last day", last.firstTime(0, 0), 8 * 60 + 4);
        Check.looks("27 firstTime changes nothing", 17, AheadTest::three, y -> y.firstTime(0, 0));
        Check.index("27 prisoner -1", AheadTest::three, y -> y.firstTime(-1, 0));
        Check.index("27 prisoner 3", AheadTest::three, y -> y.firstTime(3, 0));
        Check.index("27 visitor -1", AheadTest::three, y -> y.firstTime(0, -1));
        Check.index("27 visitor 10", AheadTest::three, y -> y.firstTime(0, 10));
    }

    /** One booth, and all the hours of the days 0 and 1 taken by the prisoners 1 to 4. */
    private static VisitHours twoFullDays() {
        VisitHours x = new VisitHours();
        x.set(0, 1);
        for (int p = 0; p < 5; p++) {
            x.addPrisoner(3);
            x.list(p, p, true);
        }
        for (int k = 0; k < 16; k++) {
            x.book(k % 4 + 1, k % 4 + 1, k / 8, k % 8);
        }
        return x;
    }

    private static void fullDays() {
        VisitHours x = twoFullDays();
        Check.is("27 behind two full days", x.firstTime(0, 0), 16);
        x.cancel(15);
        Check.is("27 the last hour of the second day", x.firstTime(0, 0), 15);
        x.cancel(7);
        Check.is("27 the last hour of the first day", x.firstTime(0, 0), 7);
        VisitHours wishing = twoFullDays();
        wishing.wish(0, 0);
        wishing.run(1);
        Check.same("23 a wish behind two full days", Check.lineOf(wishing, 8), "2d0h0 p0 v0");
    }

    /** Behind the last day for which one may book, wishes and firstTime have no limit. */
    private static void farAhead() {
        VisitHours x = Check.loaded("man,3;may,0,0");
        for (int i = 0; i < 334; i++) {
            x.run(30);
        }
        Check.is("27 today", x.about(1), 10020);
        Check.is("27 firstTime behind the day 9999", x.firstTime(0, 0), 80160);
        Check.same("17 today is behind the day 9999", Check.outcome(x, y -> y.book(0, 0, 10020, 0)),
                "IllegalArgumentException");
        Check.same("26 today is behind the day 9999", Check.outcome(x, y -> y.whyNot(0, 0, 10020, 0)),
                "IllegalArgumentException");
        Check.is("30 a booking of today fails", x.runScript(1, 10000), 0);
        x.wish(0, 0);
        Check.is("23 a wish is held", x.run(1), 1);
    }

    private static VisitHours busy() {
        VisitHours x = Check.loaded("man,3;man,0;may,0,0;may,0,1;may,1,2;has,1;book,0,0,0,0;book,0,0,1,0;book,0,1,2,0");
        x.wish(1, 2);
        x.wish(1, 2);
        x.wish(1, 2);
        x.book(0, 0, 5, 0);
        x.late(3, 59);
        return x;
    }

    /**
     * Day 0: 0-0 held, 1-2 held. Day 1: 0-0 is the third, searched, held. Day 2: 0-1 is not searched, held. Day 5: 0-0
     * too late. Day 7: 1-2 is the sixth, held. Day 14: held.
     */
    private static void coming() {
        int[][] due = {{2, 0, 0, 0, 2}, {3, 0, 0, 0, 1}, {4, 0, 0, 0, 1}, {4, 0, 0, 0, 1}, {4, 0, 0, 0, 1},
            {4, 0, 0, 1, 1}, {4, 0, 0, 1, 1}, {5, 0, 0, 1, 1}, {5, 0, 0, 1, 0}, {5, 0, 0, 1, 0}};
        for (int n = 1; n <= due.length; n++) {
            for (int what = 0; what <= 4; what++) {
                VisitHours x = busy();
                Check.is("28 coming(" + n + ", " + what + ")", x.coming(n, what), due[n - 1][what]);
                x.run(n);
                Check.is("28 run(" + n + "), " + what, x.about(what == 4 ? 3 : 4 + what), due[n - 1][what]);
            }
        }
    }

    private static void comingLater() {
        VisitHours x = busy();
        Check.is("28 one wish has not found its week", x.coming(8, 4), 1);
        Check.is("28 at last it is held", x.coming(15, 0), 6);
        x.run(6);
        Check.is("28 only what is ahead counts", x.coming(60, 0), 2);
        Check.is("28 the one too late is behind", x.coming(60, 3), 0);
        x.set(1, 1);
        x.carry(2, true);
        Check.is("28 found", x.coming(60, 2), 1);
        Check.is("28 held when the ban is over", x.coming(60, 0), 1);
        Check.is("28 none is held ahead of it", x.coming(16, 0), 0);
        x.punish(1, 3);
        Check.is("28 refused", x.coming(60, 1), 1);
        Check.looks("28 coming changes nothing", 6, AheadTest::busy, y -> y.coming(60, 0));
        Check.argument("28 n 0", AheadTest::busy, y -> y.coming(0, 0));
        Check.argument("28 n 61", AheadTest::busy, y -> y.coming(61, 0));
        Check.argument("28 n -1", AheadTest::busy, y -> y.coming(-1, 0));
        Check.argument("28 what -1", AheadTest::busy, y -> y.coming(1, -1));
        Check.argument("28 what 5", AheadTest::busy, y -> y.coming(1, 5));
    }

    private static void becomes() {
        VisitHours x = Check.loaded("man,3;man,3;may,0,0;may,1,1;may,1,2;has,1;book,0,0,0,0;book,1,2,0,0;book,1,1,0,1");
        x.book(1, 2, 0, 2);
        x.book(1, 2, 8, 2);
        x.book(0, 0, 8, 2);
        x.late(5, 16);
        int[] due = {0, 0, 2, 1, 0, 3};
        for (int k = 0; k < due.length; k++) {
            Check.is("29 becomes " + k, x.becomes(k), due[k]);
        }
        x.list(1, 1, false);
        Check.is("29 off the list is found all the same", x.becomes(2), 2);
    }

    private static void becomesWithWishes() {
        VisitHours x = Check.loaded("man,3;man,3;may,0,0;may,1,1;has,0;book,0,0,1,0");
        Check.is("29 the first who is counted", x.becomes(0), 0);
        x.wish(1, 1);
        x.wish(1, 1);
        Check.is("29 the third, as wishes become bookings", x.becomes(0), 2);
        x.wish(1, 1);
        Check.is("29 the fourth", x.becomes(0), 0);
        x.book(1, 1, 1, 0);
        Check.is("29 three wishes still fit", x.becomes(1), 0);
        x.book(0, 0, 0, 7);
        Check.is("29 wishes of the very day count, too", x.becomes(0), 0);
        x.undo();
        x.punish(1, 2);
        Check.is("29 the booking beside it is refused", x.becomes(1), 1);
        Check.is("29 then it is the first again", x.becomes(0), 0);
    }

    private static void becomesToday() {
        VisitHours x = Check.loaded("man,3;man,3;may,0,0;may,1,1;has,0;book,0,0,0,7");
        Check.is("29 today, the first", x.becomes(0), 0);
        x.wish(1, 1);
        Check.is("29 today, the second", x.becomes(0), 0);
        x.wish(1, 1);
        Check.is("29 today, the third, by wishes of today", x.becomes(0), 2);
    }

    private static VisitHours far() {
        VisitHours x = Check.loaded("man,3;may,0,0;run,1");
        x.book(0, 0, 60, 7);
        x.book(0, 0, 61, 0);
        return x;
    }

    private static void becomesArguments() {
        Check.looks("29 today and 59, nothing changes", 0, AheadTest::far, y -> y.becomes(0));
        Check.state("29 today and 60", AheadTest::far, y -> y.becomes(1));
        Check.index("29 becomes -1", AheadTest::far, y -> y.becomes(-1));
        Check.index("29 becomes 2", AheadTest::far, y -> y.becomes(2));
        Check.index("29 becomes, none there", VisitHours::new, y -> y.becomes(0));
    }

    private static void script(String what, int due, int n, long script) {
        Check.looks("30 " + what + ", " + script, due, AheadTest::three, y -> y.runScript(n, script));
    }

    private static void scriptCommands() {
        script("book", NONE, 1, 10001);
        script("book, taken", 0, 1, 10000);
        script("book on another day", NONE, 1, 10010);
        script("book in nine days", NONE, 1, 10097);
        script("book at 8", 0, 1, 10018);
        script("book of no prisoner", 0, 1, 13010);
        script("book, not on the list", 0, 1, 10110);
        script("wish", NONE, 1, 20000);
        script("wish of the last", NONE, 1, 22200);
        script("wish, not on the list", 0, 1, 20100);
        script("wish of no prisoner", 0, 1, 23000);
        script("wish with a digit", 0, 1, 20001);
        script("wish with another digit", 0, 1, 20010);
        script("list", NONE, 1, 30901);
        script("list off", NONE, 1, 30000);
        script("list of no prisoner", 0, 1, 33001);
        script("list with b 2", 0, 1, 30902);
        script("list with a digit", 0, 1, 30911);
        script("carry", NONE, 1, 49001);
        script("carry no more", NONE, 1, 49000);
        script("carry with b 2", 0, 1, 49002);
        script("carry with a digit", 0, 1, 49101);
        script("carry with another digit", 0, 1, 49011);
        script("punish", NONE, 1, 52099);
        script("punish by 0", NONE, 1, 50000);
        script("punish no prisoner", 0, 1, 53001);
        script("punish with a digit", 0, 1, 50101);
        script("run", NONE, 1, 60030);
        script("run 1", NONE, 1, 60001);
        script("run 0", 0, 1, 60000);
        script("run 31", 0, 1, 60031);
        script("run with a digit", 0, 1, 61001);
        script("run with another digit", 0, 1, 60101);
        script("had none", NONE, 1, 70000);
        script("had at least one", 0, 1, 70001);
        script("had, no prisoner", 0, 1, 73000);
        script("had, with a digit", 0, 1, 70100);
        script("no ban", NONE, 1, 89000);
        script("no ban, with a digit", 0, 1, 89001);
        script("no ban, with another digit", 0, 1, 89010);
        script("no ban, with a third digit", 0, 1, 89100);
        script("at most one booking", NONE, 1, 90001);
        script("at most none", 0, 1, 90000);
        script("at most, with a digit", 0, 1, 90101);
        script("at most, with another digit", 0, 1, 91001);
        script("no command", 0, 1, 0);
        script("no command", 0, 1, 9999);
    }

    private static void scriptsOfSeveral() {
        script("held, then counted", NONE, 3, 60001_70001_90000L);
        script("held, but not two", 1, 3, 60001_70002_90000L);
        script("the last one fails", 2, 3, 60001_70001_99000L);
        script("the first one fails", 0, 3, 60000_70001_90000L);
        script("a number with fewer digits", 0, 2, 60001);
        script("a number with fewer digits", 0, 3, 60001_60001L);
        script("list and book", NONE, 2, 30901_10901L);
        script("off the list and book", 1, 2, 30000_10001L);
        script("punish and book", 1, 2, 50002_10011L);
        script("punish and book behind", NONE, 2, 50002_10020L);
        script("book and book", 1, 2, 10010_10010L);
        script("found by nobody", NONE, 3, 41001_60001_81000L);
        script("book and two bookings", NONE, 2, 10010_90002L);
        script("book and at most one", 1, 2, 10010_90001L);
        script("run and book today", NONE, 2, 60030_10000L);
        script("the highest of three", 0, 3, 999_99999_99999_99L);
    }

    private static VisitHours searching() {
        VisitHours x = three();
        x.set(1, 1);
        return x;
    }

    private static void scriptOfBan() {
        VisitHours x = searching();
        Check.is("30 a ban behind a find", x.runScript(3, 40001_60001_80000L), 2);
        Check.is("30 it is over in 15 days", x.runScript(3, 40001_60015_80000L), NONE);
        Check.is("30 not yet in 14 days", x.runScript(3, 40001_60014_80000L), 2);
        Check.is("30 no ban without a find", x.runScript(2, 60001_80000L), NONE);
    }

    private static void scriptArguments() {
        Check.argument("30 n 0", AheadTest::three, y -> y.runScript(0, 0));
        Check.argument("30 n 4", AheadTest::three, y -> y.runScript(4, 0));
        Check.argument("30 n -1", AheadTest::three, y -> y.runScript(-1, 60001));
        Check.argument("30 script -1", AheadTest::three, y -> y.runScript(1, -1));
        Check.argument("30 six digits", AheadTest::three, y -> y.runScript(1, 100000));
        Check.argument("30 eleven digits", AheadTest::three, y -> y.runScript(2, 10000000000L));
        Check.argument("30 sixteen digits", AheadTest::three, y -> y.runScript(3, 1000000000000000L));
        Check.argument("30 the greatest long", AheadTest::three, y -> y.runScript(3, Long.MAX_VALUE));
        Check.argument("30 the least long", AheadTest::three, y -> y.runScript(3, Long.MIN_VALUE));
        Check.argument("30 six digits of which the low ones are a command", AheadTest::three,
                y -> y.runScript(1, (1L << 32) + 60001));
        Check.looks("30 five digits", 0, AheadTest::three, y -> y.runScript(1, 99999));
        Check.looks("30 ten digits", 0, AheadTest::three, y -> y.runScript(2, 9999999999L));
        Check.looks("30 fifteen digits", 0, AheadTest::three, y -> y.runScript(3, 999999999999999L));
    }

    /** The turns of a simulation, done on the object itself. */
    private static int simulated(VisitHours x, long seed, int m) {
        int before = x.about(4);
        long state = seed;
        for (int turn = 0; turn < m; turn++) {
            state = state * 6364136223846793005L + 1442695040888963407L;
            int r = (int) (state >>> 33);
            Check.outcome(x, y -> turn(y, r));
        }
        return 100 * (x.about(4) - before) + x.about(2);
    }

    private static int turn(VisitHours x, int r) {
        int p = r / 8 % 8;
        int v = r / 64 % 10;
        switch (r % 8) {
            case 0:
            case 1: return x.book(p, v, x.about(1) + r / 1024 % 5, r / 8192 % 8);
            case 2: return x.wish(p, v);
            case 3: return x.list(p, v, true);
            case 4: return x.carry(v, true);
            case 5: return x.late(r / 8 % 24, r / 1024 % 40);
            default: return x.run(1);
        }
    }

    private static VisitHours open() {
        VisitHours x = full();
        for (int k = 23; k >= 10; k--) {
            x.cancel(k);
        }
        for (int p = 0; p < 8; p++) {
            for (int v = 0; v < 10; v++) {
                x.list(p, v, true);
            }
        }
        x.wish(7, 7);
        return x;
    }

    private static void simulate() {
        long[] seeds = {0, 1, -1, 42, 123456789L, Long.MAX_VALUE, Long.MIN_VALUE, -987654321987L};
        int[] turns = {1, 2, 7, 30, 60};
        int most = 0;
        for (long seed : seeds) {
            for (int m : turns) {
                int due = simulated(open(), seed, m);
                Check.is("31 simulate(" + seed + ", " + m + ")", open().simulate(seed, m), due);
                most = Math.max(most, due);
            }
        }
        Check.is("31 visits are held in some", most >= 1000 ? 1 : 0, 1);
        VisitHours behind = open();
        behind.run(1);
        Check.is("31 visits held before", behind.about(4) > 0 ? 1 : 0, 1);
        Check.is("31 only those held in the turns count", behind.simulate(5, 1), behind.simulate(5, 1) % 100
                + 100 * (simulatedBehindADay(5, 1) / 100));
        Check.looks("31 simulate changes nothing", open().simulate(42, 60), AheadTest::open, y -> y.simulate(42, 60));
        Check.looks("31 nobody there", 0, VisitHours::new, y -> y.simulate(42, 60));
        Check.argument("31 m 0", AheadTest::open, y -> y.simulate(1, 0));
        Check.argument("31 m 61", AheadTest::open, y -> y.simulate(1, 61));
        Check.argument("31 m -1", AheadTest::open, y -> y.simulate(1, -1));
    }

    private static int simulatedBehindADay(long seed, int m) {
        VisitHours x = open();
        x.run(1);
        return simulated(x, seed, m);
    }

    public static void main(String[] args) {
        reasons();
        reasonOfBan();
        reasonOfFull();
        whyNotArguments();
        firstTime();
        fullDays();
        farAhead();
        coming();
        comingLater();
        becomes();
        becomesWithWishes();
        becomesToday();
        becomesArguments();
        scriptCommands();
        scriptsOfSeveral();
        scriptOfBan();
        scriptArguments();
        simulate();
        Check.end();
    }
}
