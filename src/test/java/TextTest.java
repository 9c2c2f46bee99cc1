/** Promises 2 to 5: the text. */
public final class TextTest {
    private static final int NONE = VisitHours.NONE;

    private static String times(String part, int n) {
        return part.repeat(n);
    }

    private static void append() {
        VisitHours x = new VisitHours();
        Check.is("2 append, the first", x.append('m'), 1);
        Check.is("2 append 0", x.append(0), 2);
        Check.is("2 append 255", x.append(255), 3);
        Check.argument("2 append -1", VisitHours::new, y -> y.append(-1));
        Check.argument("2 append 256", VisitHours::new, y -> y.append(256));
        Check.argument("2 append, the least int", VisitHours::new, y -> y.append(Integer.MIN_VALUE));
        Check.is("2 append, the last that fits", Check.withText(times("a", 119)).append('b'), 120);
        Check.state("2 append to 120", () -> Check.withText(times("a", 120)), y -> y.append('b'));
        Check.argument("2 append 256 to 120", () -> Check.withText(times("a", 120)), y -> y.append(256));
    }

    private static void clearText() {
        VisitHours x = Check.withText("man,3");
        Check.is("3 clearText", x.clearText(), 5);
        Check.is("3 clearText once more", x.clearText(), 0);
        Check.is("3 errorPosition then", x.errorPosition(), 0);
        Check.is("3 append then", x.append('m'), 1);
        VisitHours full = Check.withText(times("z", 120));
        Check.is("3 clearText of 120", full.clearText(), 120);
        Check.is("3 append then", full.append('z'), 1);
    }

    private static void error(String text, int due) {
        Check.looks("4 errorPosition of \"" + text + "\"", due, () -> Check.withText(text), VisitHours::errorPosition);
    }

    private static void words() {
        error("", 0);
        error("x", 0);
        error("m", 1);
        error("ma", 2);
        error("max", 2);
        error("man", 3);
        error("many", 3);
        error("may", 3);
        error("bo", 2);
        error("ban", 1);
        error("booo", 3);
        error("wish", 4);
        error("wiss", 3);
        error("hax", 2);
        error("rum", 2);
        error("Man,1", 0);
        error(" man,1", 0);
        error("man 1", 3);
        error(",", 0);
        error(";", 0);
        error("1", 0);
        error("\u00ff", 0);
        error("set,1", 0);
    }

    private static void numbers() {
        error("man,", 4);
        error("man,0", NONE);
        error("man,3", NONE);
        error("man,4", 4);
        error("man,30", 5);
        error("man,00", 5);
        error("man,-1", 4);
        error("man,a", 4);
        error("man,\u00ff", 4);
        error("may,7", 5);
        error("may,7,", 6);
        error("may,7,9", NONE);
        error("may,8,9", 4);
        error("may,7,10", 7);
        error("may,7,9,", 7);
        error("may,7;", 5);
        error("book,0,0,0,0", NONE);
        error("book,7,9,99,7", NONE);
        error("book,8,0,0,0", 5);
        error("book,0,10,0,0", 8);
        error("book,0,0,10,0", NONE);
        error("book,0,0,100,0", 11);
        error("book,0,0,00,0", 10);
        error("book,0,0,01,0", 10);
        error("book,0,0,5,8", 11);
        error("book,0,0,5", 10);
        error("book,0,0,5,7,", 12);
        error("wish,7,9", NONE);
        error("wish,8", 5);
        error("wish,0", 6);
        error("has,9", NONE);
        error("has,10", 5);
        error("has,", 4);
        error("run,0", 4);
        error("run,1", NONE);
        error("run,9", NONE);
        error("run,10", NONE);
        error("run,29", NONE);
        error("run,30", NONE);
        error("run,31", 5);
        error("run,40", 5);
        error("run,01", 4);
        error("run,300", 6);
    }

    private static void severalCommands() {
        error("man,3;", 6);
        error("man,3;;", 6);
        error("man,3,man,3", 5);
        error("man,3 ;man,3", 5);
        error("man,3; man,3", 6);
        error("man,3;man,3", NONE);
        error("man,1;run,2;q", 12);
        error("man,1;run,2;has", 15);
        error("run,3;run,3;run,31", 17);
        error(times("man,1;", 20), 120);
        error(times("man,1;", 19) + "man,10", 119);
        error("run,30;" + times("run,1;", 17) + "man,1;run,1", NONE);
        error(times("has,1;", 18) + "has,1;run,30", NONE);
    }

    private static void load() {
        VisitHours x = Check.withText("man,3;man,2;may,0,1;may,1,2;has,4;book,0,1,2,3;book,1,2,2,3;run,2;wish,1,2");
        Check.is("5 load", x.load(), 0);
        Check.is("5 prisoners", x.about(0), 2);
        Check.is("5 rank", x.prisoner(0, 0), 3);
        Check.is("5 rank", x.prisoner(1, 0), 2);
        Check.is("5 list", x.prisoner(0, 1), 2);
        Check.is("5 list", x.prisoner(1, 1), 4);
        Check.is("5 carries", x.visitor(4, 2), 1);
        Check.is("5 today", x.about(1), 2);
        Check.is("5 bookings", x.about(2), 2);
        Check.same("5 the second line", Check.lineOf(x, 1), "2d3h1 p1 v2");
        Check.is("5 wishes", x.about(3), 1);
        Check.is("5 which wish", x.wishAt(0), 12);
        Check.state("5 undo behind load", () -> Check.loaded("man,3;run,1"), VisitHours::undo);
        Check.is("5 keeps the text", Check.loaded("man,3;run,1").clearText(), 11);
        Check.is("5 load twice", twice("man,3;run,1").about(0), 1);
    }

    private static VisitHours twice(String text) {
        VisitHours x = Check.loaded(text);
        x.load();
        return x;
    }

    private static void leavesOut(String text, int due) {
        Check.is("5 load of " + text, Check.withText(text).load(), due);
    }

    private static void leftOut() {
        leavesOut(times("man,0;", 8) + "man,0", 1);
        leavesOut(times("man,0;", 8) + "man,0;may,7,0", 1);
        leavesOut("may,0,0", 1);
        leavesOut("man,0;may,0,0;may,1,0", 1);
        leavesOut("book,0,0,0,0", 1);
        leavesOut("man,0;book,0,0,0,0", 1);
        leavesOut("man,0;may,0,0;book,0,0,0,0;book,0,0,1,0", 1);
        leavesOut("man,0;may,0,0;run,2;book,0,0,1,0;book,0,0,2,0", 1);
        leavesOut("wish,0,0", 1);
        leavesOut("man,0;wish,0,0", 1);
        leavesOut("man,0;may,0,0;" + times("wish,0,0;", 10) + "wish,0,0", 1);
        leavesOut("has,9", 0);
        leavesOut("run,30;run,30", 0);
        leavesOut("may,0,0;book,1,0,0,0;wish,3,3;man,1", 3);
        Check.is("5 what is left out does nothing", Check.loaded("may,0,0;book,1,0,0,0;wish,3,3;man,1").about(2), 0);
    }

    private static VisitHours used() {
        VisitHours x = Check.withText("man,1;may,0,3");
        x.addPrisoner(2);
        x.list(0, 1, true);
        x.set(0, 4);
        x.set(5, 99);
        x.carry(1, true);
        x.save(0);
        x.save(1);
        x.book(0, 1, 3, 3);
        x.run(2);
        x.wish(0, 1);
        return x;
    }

    private static void anew() {
        Check.is("5 load of a used one", used().load(), 0);
        Check.same("5 as in a new object", Check.everything(TextTest::usedAndLoaded),
                Check.everything(() -> Check.loaded("man,1;may,0,3")));
        VisitHours slots = used();
        slots.load();
        Check.same("5 slot 0 is empty", Check.outcome(slots, y -> y.restore(0)), "IllegalStateException");
        Check.same("5 slot 1 is empty", Check.outcome(slots, y -> y.restore(1)), "IllegalStateException");
    }

    private static VisitHours usedAndLoaded() {
        VisitHours x = used();
        x.load();
        return x;
    }

    private static VisitHours spoiled(String behind) {
        VisitHours x = used();
        Check.write(x, behind);
        return x;
    }

    private static void noPrison() {
        Check.state("5 load of an empty text", VisitHours::new, VisitHours::load);
        Check.state("5 load of a short text", () -> Check.withText("man,"), VisitHours::load);
        Check.state("5 load with an error at the end", () -> spoiled(";"), VisitHours::load);
        Check.state("5 load with an error", () -> spoiled("0"), VisitHours::load);
        Check.state("5 load with an error behind commands", () -> spoiled(";man,1;man,4"), VisitHours::load);
    }

    public static void main(String[] args) {
        append();
        clearText();
        words();
        numbers();
        severalCommands();
        load();
        leftOut();
        anew();
        noPrison();
        Check.end();
    }
}
