/** The sentences of the promises 13 to 25. */
final class ActionEdges {
    private ActionEdges() {
    }

    static void all() {
        addPrisoner();
        promote();
        list();
        keepApart();
        book();
        bookRefused();
        cancel();
        late();
        carry();
        punish();
        wish();
        run();
        set();
        undo();
    }

    private static void addPrisoner() {
        Edge.test("Promise 13", "Adds a prisoner, with an empty list.", () -> {
            VisitHours x = new VisitHours();
            x.addPrisoner(1);
            x.list(0, 3, true);
            x.punish(0, 9);
            for (int i = 0; i < 3; i++) {
                x.undo();
            }
            Check.is("the first again", x.addPrisoner(2), 0);
            int[] due = {2, 0, 0, 0, 0, 0, 0, 0};
            for (int what = 0; what <= 7; what++) {
                Check.is("number " + what, x.prisoner(0, what), due[what]);
            }
        });
        Edge.test("Promise 13", "`rank`: 0 to 3", () -> {
            Edge.inside("rank", 0, 3, Prisons::some, VisitHours::addPrisoner);
            VisitHours x = new VisitHours();
            x.addPrisoner(0);
            x.addPrisoner(3);
            Check.is("the least", x.prisoner(0, 0), 0);
            Check.is("the greatest", x.prisoner(1, 0), 3);
        });
        Edge.test("Promise 13", "Returns the number of the prisoner.", () -> {
            VisitHours x = new VisitHours();
            for (int p = 0; p <= 7; p++) {
                Check.is("number", x.addPrisoner(p % 4), p);
            }
        });
        Edge.test("Promise 13", "Throws `IllegalArgumentException` if rank is out of range", () -> {
            Edge.noArgument("rank", 0, 3, Prisons::some, VisitHours::addPrisoner);
            Edge.noArgument("rank of the ninth", 0, 3, Prisons::eight, VisitHours::addPrisoner);
        });
        Edge.test("Promise 13", "Throws `IllegalStateException` if there are 8", () -> {
            Check.is("there are 7", Check.loaded("man,0;".repeat(6) + "man,0").addPrisoner(3), 7);
            Check.state("there are 8, rank 0", Prisons::eight, y -> y.addPrisoner(0));
            Check.state("there are 8, rank 3", Prisons::eight, y -> y.addPrisoner(3));
        });
    }

    private static void promote() {
        Edge.plain("Promise 14", "`p`: prisoner");
        Edge.test("Promise 14", "Changes the rank of a prisoner; bookings stay.", () -> {
            VisitHours x = Prisons.open(2);
            for (int day = 0; day < 4; day++) {
                x.book(0, 0, day, 0);
            }
            x.promote(0, 0);
            Check.is("the rank", x.prisoner(0, 0), 0);
            Check.is("of the other one", x.prisoner(1, 0), 3);
            Check.is("bookings", x.about(2), 4);
            Check.is("held", x.run(4), 4);
        });
        Edge.test("Promise 14", "`rank`: 0 to 3", () ->
            Edge.inside("rank", 0, 3, Prisons::some, (y, rank) -> y.promote(2, rank)));
        Edge.test("Promise 14", "Returns the previous rank.", () -> {
            VisitHours x = Prisons.some();
            int[] ranks = {3, 0, 0, 1, 2, 3};
            for (int i = 1; i < ranks.length; i++) {
                Check.is("from " + ranks[i - 1], x.promote(0, ranks[i]), ranks[i - 1]);
            }
        });
        Edge.test("Promise 14", "Throws `IndexOutOfBoundsException` if there is no such prisoner", () -> {
            Edge.inside("prisoner", 0, 2, Prisons::some, (y, p) -> y.promote(p, 0));
            Edge.noIndex("prisoner", 0, 2, Prisons::some, (y, p) -> y.promote(p, 0));
            Edge.noIndex("prisoner of 8", 0, 7, Prisons::eight, (y, p) -> y.promote(p, 0));
            Edge.noIndex("prisoner, rank 4", 0, 2, Prisons::some, (y, p) -> y.promote(p, 4));
        });
        Edge.test("Promise 14", "Throws `IllegalArgumentException` if rank is out of range", () ->
            Edge.noArgument("rank", 0, 3, Prisons::some, (y, rank) -> y.promote(2, rank)));
    }

    private static void list() {
        Edge.plain("Promise 15", "`p`: prisoner", "`v`: visitor");
        Edge.test("Promise 15", "Changes whether a visitor is on the list of a prisoner; bookings stay.", () -> {
            VisitHours x = Prisons.open(2);
            x.book(0, 0, 0, 0);
            x.wish(0, 1);
            x.list(0, 0, false);
            Check.is("no new booking", x.whyNot(0, 0, 0, 1), 1);
            Check.is("the other list", x.prisoner(1, 1), 1023);
            Check.is("bookings", x.about(2), 1);
            x.list(0, 1, false);
            Check.is("wishes", x.about(3), 1);
            Check.is("held", x.run(1), 1);
        });
        Edge.test("Promise 15", "`is`: whether the visitor is on it then", () -> {
            VisitHours x = Check.loaded("man,0");
            Check.is("on it", x.list(0, 9, true), 512);
            Check.is("on it, again", x.list(0, 9, true), 512);
            Check.is("not on it", x.list(0, 9, false), 0);
            Check.is("not on it, again", x.list(0, 9, false), 0);
        });
        Edge.test("Promise 15", "Returns the list then, bit v set for the visitor v.", () -> {
            VisitHours x = Check.loaded("man,0");
            for (int v = 0; v <= 9; v++) {
                Check.is("with " + v, x.list(0, v, true), (2 << v) - 1);
            }
            Check.is("without the first", x.list(0, 0, false), 1022);
            Check.is("without the last", x.list(0, 9, false), 510);
        });
        Edge.test("Promise 15", "Throws `IndexOutOfBoundsException` if there is no such prisoner or visitor", () -> {
            Edge.inside("prisoner", 0, 2, Prisons::some, (y, p) -> y.list(p, 0, true));
            Edge.noIndex("prisoner", 0, 2, Prisons::some, (y, p) -> y.list(p, 0, true));
            Edge.noIndex("prisoner of 8", 0, 7, Prisons::eight, (y, p) -> y.list(p, 0, true));
            Edge.noIndex("prisoner of none", 0, -1, VisitHours::new, (y, p) -> y.list(p, 0, true));
            Edge.inside("visitor", 0, 9, Prisons::some, (y, v) -> y.list(2, v, false));
            Edge.noIndex("visitor", 0, 9, Prisons::some, (y, v) -> y.list(2, v, true));
            Edge.noIndex("visitor, off the list", 0, 9, Prisons::some, (y, v) -> y.list(2, v, false));
        });
    }

    private static void keepApart() {
        Edge.plain("Promise 16", "`p`: prisoner");
        Edge.test("Promise 16", "Changes whether two prisoners are apart; bookings stay.", () -> {
            VisitHours x = Prisons.open(2);
            x.book(0, 0, 1, 0);
            x.book(1, 1, 1, 0);
            x.keepApart(0, 1, true);
            Check.is("no new booking", x.whyNot(0, 2, 1, 0), 5);
            x.cancel(0);
            Check.is("as they are apart", x.whyNot(0, 0, 1, 0), 6);
            x.undo();
            Check.is("both bookings", x.about(2), 2);
            Check.is("both held", x.run(2), 2);
        });
        Edge.test("Promise 16", "`q`: another prisoner", () -> {
            VisitHours x = Prisons.eight();
            Check.is("0 and 7", x.keepApart(0, 7, true), 128);
            Check.is("seen from 7", x.prisoner(7, 7), 1);
            Check.is("7 and 6", x.keepApart(7, 6, true), 65);
        });
        Edge.test("Promise 16", "`is`: whether they are apart then", () -> {
            VisitHours x = Prisons.eight();
            Check.is("not apart stays so", x.keepApart(3, 4, false), 0);
            Check.is("apart", x.keepApart(3, 4, true), 16);
            Check.is("apart, again", x.keepApart(4, 3, true), 8);
            Check.is("not apart, from the other side", x.keepApart(4, 3, false), 0);
            Check.is("seen from the first", x.prisoner(3, 7), 0);
        });
        Edge.test("Promise 16", "Returns the prisoners who are apart from p then, bit q set for the prisoner q.", () -> {
            VisitHours x = Prisons.eight();
            for (int q = 1; q <= 7; q++) {
                Check.is("with " + q, x.keepApart(0, q, true), (2 << q) - 2);
            }
            Check.is("without the last", x.keepApart(0, 7, false), 126);
            Check.is("those of another one", x.keepApart(6, 7, true), 129);
        });
        Edge.test("Promise 16", "Throws `IndexOutOfBoundsException` if there is no such prisoner", () -> {
            Edge.inside("p", 0, 1, Prisons::some, (y, p) -> y.keepApart(p, 2, true));
            Edge.noIndex("p", 0, 2, Prisons::some, (y, p) -> y.keepApart(p, 0, true));
            Edge.noIndex("q", 0, 2, Prisons::some, (y, q) -> y.keepApart(0, q, true));
            Edge.noIndex("both, the same", 0, 2, Prisons::some, (y, p) -> y.keepApart(p, p, true));
            Edge.noIndex("p of 8", 0, 7, Prisons::eight, (y, p) -> y.keepApart(p, 0, true));
            Edge.noIndex("q of 8", 0, 7, Prisons::eight, (y, q) -> y.keepApart(0, q, false));
        });
        Edge.test("Promise 16", "Throws `IllegalStateException` if both are the same", () -> {
            for (int p = 0; p <= 2; p++) {
                int both = p;
                Check.state("both " + p, Prisons::some, y -> y.keepApart(both, both, true));
                Check.state("both " + p + ", not apart", Prisons::some, y -> y.keepApart(both, both, false));
            }
        });
    }

    private static void book() {
        Edge.plain("Promise 17", "`p`: prisoner", "`v`: visitor");
        Edge.test("Promise 17", "Makes a booking.", () -> {
            VisitHours x = Prisons.some();
            x.book(0, 1, 5, 6);
            Check.is("bookings", x.about(2), 3);
            Check.same("its line", Check.lineOf(x, 2), "5d6h0 p0 v1");
            Check.is("it is not late", x.booking(2, 5), 0);
        });
        Edge.test("Promise 17", "`day`: today to 9999", () -> {
            Edge.inside("day", 3, 9999, Prisons::some, (y, day) -> y.book(0, 1, day, 7));
            VisitHours x = Prisons.onDay(9999);
            Check.is("a booking of it", x.book(0, 0, 9999, 0), 0);
            x.run(1);
            Check.same("no day is left", Check.outcome(x, y -> y.book(0, 0, 10000, 0)), "IllegalArgumentException");
            Check.same("the last one is gone", Check.outcome(x, y -> y.book(0, 0, 9999, 0)), "IllegalArgumentException");
        });
        Edge.test("Promise 17", "`hour`: 0 to 7", () ->
            Edge.inside("hour", 0, 7, Prisons::some, (y, hour) -> y.book(0, 1, 5, hour)));
        Edge.test("Promise 17", "Returns its booth.", () -> {
            VisitHours x = Prisons.open(5);
            x.set(0, 4);
            for (int p = 0; p < 4; p++) {
                Check.is("booth", x.book(p, p, 0, 0), p);
            }
            x.cancel(2);
            Check.is("the one that is free", x.book(4, 4, 0, 0), 2);
            Check.is("in another hour", x.book(2, 2, 0, 1), 0);
        });
    }

    private static void bookRefused() {
        Edge.test("Promise 17", "Throws `IndexOutOfBoundsException` if there is no such prisoner or visitor", () -> {
            Edge.inside("prisoner", 0, 1, Prisons::some, (y, p) -> y.book(p, 1, 7, 0));
            Edge.noIndex("prisoner", 0, 2, Prisons::some, (y, p) -> y.book(p, 0, 7, 0));
            Edge.inside("visitor", 0, 9, () -> Prisons.open(1), (y, v) -> y.book(0, v, 7, 0));
            Edge.noIndex("visitor", 0, 9, () -> Prisons.open(1), (y, v) -> y.book(0, v, 7, 0));
            Edge.noIndex("prisoner of none", 0, -1, VisitHours::new, (y, p) -> y.book(p, 0, 0, 0));
            Edge.noIndex("prisoner, wrong day and hour", 0, 2, Prisons::some, (y, p) -> y.book(p, 0, -1, 8));
            Edge.noIndex("visitor, wrong day and hour", 0, 9, Prisons::some, (y, v) -> y.book(0, v, 10000, -1));
        });
        Edge.test("Promise 17", "Throws `IllegalArgumentException` if day or hour is out of range", () -> {
            Edge.noArgument("day", 3, 9999, Prisons::some, (y, day) -> y.book(0, 1, day, 7));
            Edge.noArgument("hour", 0, 7, Prisons::some, (y, hour) -> y.book(0, 1, 4, hour));
            Edge.noArgument("hour, not on the list", 0, 7, Prisons::some, (y, hour) -> y.book(0, 9, 4, hour));
            Edge.noArgument("day, with 24 bookings", 0, 9999, Prisons::full, (y, day) -> y.book(0, 0, day, 7));
        });
        Edge.test("Promise 17", "Throws `IllegalStateException` if it is not possible", () -> {
            Check.state("reason 1", Prisons::some, y -> y.book(0, 2, 5, 0));
            Check.state("reason 2", Prisons::some, y -> y.book(2, 2, 7, 0));
            Check.is("not any more", Prisons.some().book(2, 2, 8, 0), 0);
            Check.state("reason 3", ActionEdges::banned, y -> y.book(1, 0, 14, 0));
            Check.is("not any more", banned().book(1, 0, 15, 0), 0);
            Check.state("reason 4", () -> Check.loaded("man,0;may,0,0;book,0,0,0,0"), y -> y.book(0, 0, 6, 0));
            Check.state("reason 5", Prisons::some, y -> y.book(0, 1, 3, 0));
            Check.state("reason 6", Prisons::some, y -> y.book(0, 0, 4, 0));
            Check.state("reason 7", () -> Prisons.taken(0, 1), y -> y.book(2, 2, 0, 0));
            Check.state("reason 8", Prisons::full, y -> y.book(0, 0, 3, 0));
        });
    }

    private static VisitHours banned() {
        VisitHours x = Prisons.searched(2);
        x.carry(0, true);
        x.book(0, 0, 0, 0);
        x.run(1);
        return x;
    }

    private static void cancel() {
        Edge.plain("Promise 18", "`k`: booking");
        Edge.test("Promise 18", "Cancels a booking.", () -> {
            VisitHours x = Prisons.full();
            x.late(23, 7);
            x.cancel(0);
            Check.same("those behind come nearer", Check.lineOf(x, 0), "0d0h1 p1 v1");
            Check.same("the last one, too", Check.lineOf(x, 22), "2d3h1 p7 v7+7");
            x.cancel(22);
            Check.same("the last one is gone", Check.lineOf(x, 21), "2d3h0 p6 v6");
            x.book(7, 7, 2, 3);
            Check.same("a new one is not late", Check.lineOf(x, 22), "2d3h1 p7 v7");
        });
        Edge.test("Promise 18", "Returns the bookings then.", () -> {
            VisitHours x = Prisons.full();
            for (int left = 23; left >= 0; left--) {
                Check.is("left", x.cancel(left / 2), left);
            }
        });
        Edge.test("Promise 18", "Throws `IndexOutOfBoundsException` if there is no such booking", () -> {
            Edge.inside("booking", 0, 1, Prisons::some, VisitHours::cancel);
            Edge.noIndex("booking", 0, 1, Prisons::some, VisitHours::cancel);
            Edge.inside("booking of 24", 0, 23, Prisons::full, VisitHours::cancel);
            Edge.noIndex("booking of 24", 0, 23, Prisons::full, VisitHours::cancel);
            Edge.noIndex("booking of none", 0, -1, VisitHours::new, VisitHours::cancel);
        });
    }

    private static void late() {
        Edge.plain("Promise 19", "`k`: booking");
        Edge.test("Promise 19", "Tells that the visitor of a booking will be late.", () -> {
            VisitHours x = Prisons.some();
            x.late(0, 16);
            Check.is("minutes", x.booking(0, 5), 16);
            Check.is("of the other one", x.booking(1, 5), 20);
            Check.is("too late", x.becomes(0), 3);
        });
        Edge.test("Promise 19", "`minutes`: 0 to 59", () ->
            Edge.inside("minutes", 0, 59, Prisons::some, (y, minutes) -> y.late(1, minutes)));
        Edge.test("Promise 19", "Returns the previous minutes.", () -> {
            VisitHours x = Prisons.some();
            int[] minutes = {20, 0, 59, 59, 1, 0};
            for (int i = 1; i < minutes.length; i++) {
                Check.is("from " + minutes[i - 1], x.late(1, minutes[i]), minutes[i - 1]);
            }
        });
        Edge.test("Promise 19", "Throws `IndexOutOfBoundsException` if there is no such booking", () -> {
            Edge.inside("booking", 0, 1, Prisons::some, (y, k) -> y.late(k, 5));
            Edge.noIndex("booking", 0, 1, Prisons::some, (y, k) -> y.late(k, 5));
            Edge.inside("booking of 24", 0, 23, Prisons::full, (y, k) -> y.late(k, 5));
            Edge.noIndex("booking of 24", 0, 23, Prisons::full, (y, k) -> y.late(k, 5));
            Edge.noIndex("booking of none", 0, -1, VisitHours::new, (y, k) -> y.late(k, 5));
            Edge.noIndex("booking, 60 minutes", 0, 1, Prisons::some, (y, k) -> y.late(k, 60));
        });
        Edge.test("Promise 19", "Throws `IllegalArgumentException` if minutes is out of range", () ->
            Edge.noArgument("minutes", 0, 59, Prisons::some, (y, minutes) -> y.late(1, minutes)));
    }

    private static void carry() {
        Edge.plain("Promise 20", "`v`: visitor");
        Edge.test("Promise 20", "Changes whether a visitor carries something.", () -> {
            VisitHours x = new VisitHours();
            x.carry(9, true);
            Check.is("carries", x.visitor(9, 2), 1);
            Check.is("another one does not", x.visitor(0, 2), 0);
        });
        Edge.test("Promise 20", "`is`: whether the visitor carries something then", () -> {
            VisitHours x = new VisitHours();
            Check.is("not yet, not either", x.carry(5, false), 0);
            Check.is("then", x.carry(5, true), 32);
            Check.is("again", x.carry(5, true), 32);
            Check.is("no more", x.carry(5, false), 0);
        });
        Edge.test("Promise 20", "Returns the visitors who carry something then, bit v set for the visitor v.", () -> {
            VisitHours x = new VisitHours();
            for (int v = 0; v <= 9; v++) {
                Check.is("with " + v, x.carry(v, true), (2 << v) - 1);
            }
            Check.is("without the first", x.carry(0, false), 1022);
            Check.is("without the last", x.carry(9, false), 510);
        });
        Edge.test("Promise 20", "Throws `IndexOutOfBoundsException` if there is no such visitor", () -> {
            Edge.inside("visitor", 0, 9, Prisons::some, (y, v) -> y.carry(v, true));
            Edge.noIndex("visitor", 0, 9, Prisons::some, (y, v) -> y.carry(v, true));
            Edge.noIndex("visitor, no more", 0, 9, Prisons::some, (y, v) -> y.carry(v, false));
        });
    }

    private static void punish() {
        Edge.plain("Promise 21", "`p`: prisoner");
        Edge.test("Promise 21", "Takes privileges away: they are lost up to the day today and some days, instead of what there "
                + "was.", () -> {
            VisitHours x = Prisons.some();
            x.punish(0, 99);
            Check.is("99 days", x.prisoner(0, 2), 102);
            Check.is("the last of them", x.whyNot(0, 1, 101, 0), 2);
            Check.is("the one behind", x.whyNot(0, 1, 102, 0), 0);
            x.punish(0, 1);
            Check.is("less than there was", x.prisoner(0, 2), 4);
            Check.is("today", x.whyNot(0, 1, 3, 1), 2);
            Check.is("tomorrow", x.whyNot(0, 1, 4, 1), 0);
            x.punish(0, 0);
            Check.is("none", x.prisoner(0, 2), 3);
            Check.is("not today", x.whyNot(0, 1, 3, 1), 0);
            Check.is("bookings stay", x.about(2), 2);
        });
        Edge.test("Promise 21", "`days`: 0 to 99", () ->
            Edge.inside("days", 0, 99, Prisons::some, (y, days) -> y.punish(1, days)));
        Edge.test("Promise 21", "Returns the previous day up to which they were lost.", () -> {
            VisitHours x = Prisons.some();
            Check.is("at first", x.punish(0, 0), 0);
            Check.is("up to today", x.punish(0, 99), 3);
            Check.is("99 days", x.punish(0, 5), 102);
            Check.is("of another one", x.punish(2, 0), 8);
        });
        Edge.test("Promise 21", "Throws `IndexOutOfBoundsException` if there is no such prisoner", () -> {
            Edge.inside("prisoner", 0, 2, Prisons::some, (y, p) -> y.punish(p, 5));
            Edge.noIndex("prisoner", 0, 2, Prisons::some, (y, p) -> y.punish(p, 5));
            Edge.noIndex("prisoner of 8", 0, 7, Prisons::eight, (y, p) -> y.punish(p, 5));
            Edge.noIndex("prisoner, 100 days", 0, 2, Prisons::some, (y, p) -> y.punish(p, 100));
        });
        Edge.test("Promise 21", "Throws `IllegalArgumentException` if days is out of range", () ->
            Edge.noArgument("days", 0, 99, Prisons::some, (y, days) -> y.punish(1, days)));
    }

    private static void wish() {
        Edge.plain("Promise 22", "`p`: prisoner", "`v`: visitor");
        Edge.test("Promise 22", "Adds a wish, behind those that wait.", () -> {
            VisitHours x = Prisons.open(2);
            int[] wishes = {9, 10, 0, 19, 9};
            for (int wish : wishes) {
                x.wish(wish / 10, wish % 10);
            }
            for (int k = 0; k < wishes.length; k++) {
                Check.is("wish " + k, x.wishAt(k), wishes[k]);
            }
        });
        Edge.test("Promise 22", "Returns the wishes that wait then.", () -> {
            VisitHours x = Prisons.open(1);
            for (int wishes = 1; wishes <= 10; wishes++) {
                Check.is("wishes", x.wish(0, 0), wishes);
            }
        });
        Edge.test("Promise 22", "Throws `IndexOutOfBoundsException` if there is no such prisoner or visitor", () -> {
            Edge.inside("prisoner", 0, 1, () -> Prisons.open(2), (y, p) -> y.wish(p, 0));
            Edge.noIndex("prisoner", 0, 1, () -> Prisons.open(2), (y, p) -> y.wish(p, 0));
            Edge.inside("visitor", 0, 9, () -> Prisons.open(2), (y, v) -> y.wish(1, v));
            Edge.noIndex("visitor", 0, 9, () -> Prisons.open(2), (y, v) -> y.wish(1, v));
            Edge.noIndex("prisoner, with ten wishes", 0, 0, Prisons::wishing, (y, p) -> y.wish(p, 0));
            Edge.noIndex("visitor, with ten wishes", 0, 9, Prisons::wishing, (y, v) -> y.wish(0, v));
        });
        Edge.test("Promise 22", "Throws `IllegalStateException` if the visitor is not on the list of the prisoner, or 10 wishes "
                + "wait", () -> {
            Check.state("not on the list", Prisons::some, y -> y.wish(0, 2));
            Check.state("on the list of another one", Prisons::some, y -> y.wish(2, 0));
            Check.state("nobody on the list", Prisons::eight, y -> y.wish(7, 9));
            Check.state("ten wait", Prisons::wishing, y -> y.wish(0, 0));
            Check.state("ten wait, and not on the list", Prisons::wishing, y -> y.wish(0, 9));
            VisitHours x = Prisons.wishing();
            x.run(1);
            Check.is("nine wait", x.about(3), 9);
            Check.is("the tenth again", x.wish(0, 0), 10);
        });
    }

    private static void run() {
        Edge.test("Promise 23", "Lets days go by.", () -> {
            VisitHours x = Prisons.some();
            x.run(1);
            Check.is("one day", x.about(1), 4);
            x.run(30);
            Check.is("thirty days", x.about(1), 34);
            VisitHours day = Prisons.some();
            VisitHours days = Prisons.some();
            for (int i = 0; i < 30; i++) {
                day.run(1);
            }
            days.run(30);
            Check.same("thirty days are thirty times a day", Check.visible(days), Check.visible(day));
        });
        Edge.test("Promise 23", "`n`: 1 to 30", () -> Edge.inside("days", 1, 30, Prisons::some, VisitHours::run));
        Edge.test("Promise 23", "Returns how many visits are held in them.", () -> {
            Check.is("nobody there", new VisitHours().run(30), 0);
            Check.is("the first day", Prisons.full().run(1), 8);
            Check.is("two days", Prisons.full().run(2), 16);
            Check.is("all days", Prisons.full().run(30), 24);
            VisitHours x = Prisons.open(1);
            x.book(0, 0, 29, 7);
            x.book(0, 0, 30, 0);
            Check.is("the last of thirty days", x.run(30), 1);
            Check.is("only those in them", x.run(1), 1);
            Check.is("none any more", x.run(30), 0);
        });
        Edge.test("Promise 23", "Throws `IllegalArgumentException` if n is out of range", () -> {
            Edge.noArgument("days", 1, 30, Prisons::remembering, VisitHours::run);
            Edge.noArgument("days of nobody", 1, 30, VisitHours::new, VisitHours::run);
        });
    }

    private static final int[] LEAST = {1, 1, 1, 1, 0, 0};
    private static final int[] MOST = {4, 9, 99, 99, 59, 99};

    private static void set() {
        Edge.test("Promise 24", "Changes a setting.", () -> {
            VisitHours x = new VisitHours();
            for (int what = 0; what <= 5; what++) {
                x.set(what, MOST[what]);
                for (int other = 0; other <= 5; other++) {
                    int first = new VisitHours().setting(other);
                    Check.is("the setting " + other, x.setting(other), other <= what ? MOST[other] : first);
                }
            }
        });
        Edge.test("Promise 24", "`what`: 0 to 5", () ->
            Edge.inside("what", 0, 5, Prisons::some, (y, what) -> y.set(what, 1)));
        Edge.test("Promise 24", "`v`: the new value, in its range", () -> {
            for (int what = 0; what <= 5; what++) {
                int chosen = what;
                Edge.inside("the setting " + what + " to", LEAST[what], MOST[what], Prisons::some, (y, v) -> y.set(chosen, v));
            }
        });
        Edge.test("Promise 24", "Returns the previous one.", () -> {
            int[] first = {2, 3, 14, 7, 10, 15};
            VisitHours x = new VisitHours();
            for (int what = 0; what <= 5; what++) {
                Check.is("the first of " + what, x.set(what, MOST[what]), first[what]);
                Check.is("the most of " + what, x.set(what, LEAST[what]), MOST[what]);
                Check.is("the least of " + what, x.set(what, LEAST[what]), LEAST[what]);
            }
        });
        Edge.test("Promise 24", "Throws `IllegalArgumentException` if what or v is out of range", () -> {
            Edge.noArgument("what", 0, 5, Prisons::remembering, (y, what) -> y.set(what, 1));
            for (int what = 0; what <= 5; what++) {
                int chosen = what;
                Edge.noArgument("the setting " + what + " to", LEAST[what], MOST[what], Prisons::remembering,
                        (y, v) -> y.set(chosen, v));
            }
        });
    }

    private static void undo() {
        Edge.test("Promise 25", "Takes back the last action that is remembered.", () -> {
            VisitHours x = Prisons.some();
            String before = Check.visible(Prisons.some());
            x.run(30);
            x.undo();
            Check.same("a run", Check.visible(x), before);
            VisitHours y = Prisons.some();
            y.addPrisoner(0);
            y.cancel(0);
            Check.outcome(y, z -> z.cancel(7));
            y.undo();
            Check.is("the last one, behind a refused one", y.about(2), 2);
            Check.is("and not the one ahead of it", y.about(0), 4);
        });
        Edge.test("Promise 25", "Returns how many states are still remembered.", () -> {
            VisitHours x = Prisons.remembering();
            for (int left = 13; left >= 0; left--) {
                Check.is("still", x.undo(), left);
            }
            x.set(0, 1);
            Check.is("behind a new action", x.undo(), 0);
        });
        Edge.test("Promise 25", "Throws `IllegalStateException` if none is remembered", () -> {
            Check.state("of a new object", VisitHours::new, VisitHours::undo);
            Check.state("behind load", Prisons::eight, VisitHours::undo);
            Check.state("behind restore", ActionEdges::restored, VisitHours::undo);
            VisitHours x = Prisons.remembering();
            for (int i = 0; i < 14; i++) {
                x.undo();
            }
            Check.same("behind 14 of them", Check.outcome(x, VisitHours::undo), "IllegalStateException");
            Check.same("and again", Check.outcome(x, VisitHours::undo), "IllegalStateException");
        });
    }

    private static VisitHours restored() {
        VisitHours x = Prisons.some();
        x.restore(0);
        return x;
    }
}
