/** The sentences about the text: those of "Terms", and the promises 2 to 5. */
final class TextEdges {
    private static final int NONE = VisitHours.NONE;

    private TextEdges() {
    }

    private static void term(String words, Runnable checks) {
        Edge.test("Terms", words, checks);
    }

    static void all() {
        Edge.plain("Terms", "TEXT");
        buffer();
        commands();
        words();
        numbers();
        leftOut();
        signs();
        errorPosition();
        append();
        clearText();
        check();
        load();
        loadAnew();
    }

    private static void error(String text, int due) {
        Check.is("errorPosition of \"" + text + "\"", Check.withText(text).errorPosition(), due);
    }

    private static void buffer() {
        term("The object has a text buffer of at most 120 characters.", () -> {
            Check.is("empty at first", new VisitHours().clearText(), 0);
            Check.is("the last that fits", Check.withText("z".repeat(119)).append('z'), 120);
            Check.state("one more", Prisons::written, y -> y.append('z'));
            error("run,30;" + "run,1;".repeat(17) + "man,1;run,1", NONE);
            error("man,1;".repeat(20), 120);
            error("man,1;".repeat(19) + "man,1z", 119);
        });
    }

    private static void commands() {
        term("A prison as a text is one or more commands with ; between them.", () -> {
            error("", 0);
            error("man,0", NONE);
            error("man,0;man,0", NONE);
            error("man,0;", 6);
            error(";man,0", 0);
            error("man,0;;man,0", 6);
            error("man,0man,0", 5);
            error("man,0,man,0", 5);
            error("man,1;".repeat(19) + "man,1", NONE);
        });
        term("A command is a word and numbers, each behind a comma:", () -> {
            error("man", 3);
            error("man,", 4);
            error("man0", 3);
            error("man,,0", 4);
            error("man,0,", 5);
            error("man,0,0", 5);
            error("may,0", 5);
            error("may,0;", 5);
            error("may,00", 5);
            error("may,0,", 6);
            error("may,0,0,0", 7);
            error("book,0,0,0", 10);
            error("book,0,0,0;", 10);
            error("book,0,0,0,0,0", 12);
            error("1,man", 0);
        });
    }

    private static VisitHours two() {
        return Check.loaded("man,3;man,0");
    }

    private static void words() {
        term("man, with a rank (0 to 3): addPrisoner();", () -> {
            error("man,0", NONE);
            error("man,3", NONE);
            error("man,4", 4);
            VisitHours x = two();
            Check.is("prisoners", x.about(0), 2);
            Check.is("rank of the first", x.prisoner(0, 0), 3);
            Check.is("rank of the second", x.prisoner(1, 0), 0);
        });
        term("may, with a prisoner (0 to 7) and a visitor (0 to 9): list(), so that the visitor is on the list;", () -> {
            error("may,0,0", NONE);
            error("may,7,9", NONE);
            error("may,8,0", 4);
            error("may,0,10", 7);
            VisitHours x = Check.loaded("man,0;".repeat(8) + "may,7,9;may,0,0");
            Check.is("the list of 7", x.prisoner(7, 1), 512);
            Check.is("the list of 0", x.prisoner(0, 1), 1);
        });
        term("book, with a prisoner, a visitor, a day (0 to 99) and an hour (0 to 7): book();", () -> {
            error("book,0,0,0,0", NONE);
            error("book,7,9,99,7", NONE);
            error("book,8,9,99,7", 5);
            error("book,7,10,99,7", 8);
            error("book,7,9,100,7", 11);
            error("book,7,9,99,8", 12);
            VisitHours x = Check.loaded("man,0;may,0,9;book,0,9,99,7");
            Check.same("its line", Check.lineOf(x, 0), "99d7h0 p0 v9");
        });
        term("wish, with a prisoner and a visitor: wish();", () -> {
            error("wish,0,0", NONE);
            error("wish,7,9", NONE);
            error("wish,8,9", 5);
            error("wish,7,10", 8);
            Check.is("the wish", Check.loaded("man,0;may,0,9;wish,0,9").wishAt(0), 9);
        });
    }

    private static void numbers() {
        term("has, with a visitor: carry(), so that the visitor carries something;", () -> {
            error("has,0", NONE);
            error("has,9", NONE);
            error("has,10", 5);
            VisitHours x = Check.loaded("has,0;has,9");
            Check.is("what 0 carries", x.visitor(0, 2), 1);
            Check.is("what 9 carries", x.visitor(9, 2), 1);
            Check.is("what 8 carries", x.visitor(8, 2), 0);
        });
        term("run, with days (1 to 30): run().", () -> {
            error("run,0", 4);
            error("run,1", NONE);
            error("run,9", NONE);
            error("run,10", NONE);
            error("run,29", NONE);
            error("run,30", NONE);
            error("run,31", 5);
            error("run,40", 5);
            error("run,100", 6);
            Check.is("one day", Check.loaded("run,1").about(1), 1);
            Check.is("thirty days", Check.loaded("run,30").about(1), 30);
        });
        term("Numbers are without zeros ahead.", () -> {
            error("man,00", 5);
            error("man,01", 5);
            error("may,00,0", 5);
            error("has,01", 5);
            error("book,0,0,00,0", 10);
            error("book,0,0,01,0", 10);
            error("book,0,0,0,00", 12);
            error("run,01", 4);
            error("run,00", 4);
            error("run,10", NONE);
            error("book,0,0,10,0", NONE);
        });
    }

    private static void leavesOut(int due, String text) {
        Check.is("load of " + text, Check.withText(text).load(), due);
    }

    private static void leftOut() {
        term("Commands that would throw an exception are left out, and so are bookings that are not possible.", () -> {
            leavesOut(0, "man,0;".repeat(7) + "man,0");
            leavesOut(1, "man,0;".repeat(8) + "man,0");
            leavesOut(1, "may,0,0");
            leavesOut(0, "man,0;may,0,0");
            leavesOut(1, "man,0;may,1,0");
            leavesOut(1, "man,0;book,0,0,0,0");
            leavesOut(0, "man,0;may,0,0;book,0,0,6,0;book,0,0,7,0");
            leavesOut(1, "man,0;may,0,0;book,0,0,6,0;book,0,0,0,0");
            leavesOut(0, "man,0;may,0,0;run,2;book,0,0,2,0");
            leavesOut(1, "man,0;may,0,0;run,2;book,0,0,1,0");
            leavesOut(1, "man,0;may,0,1;wish,0,0");
            leavesOut(0, "man,0;may,0,0;" + "wish,0,0;".repeat(9) + "wish,0,0");
            leavesOut(1, "man,0;may,0,0;" + "wish,0,0;".repeat(10) + "wish,0,0");
            leavesOut(0, "has,0;has,0;run,30;run,30;run,30");
            Check.same("the others are done", Check.lineOf(Check.loaded("wish,0,0;man,0;book,0,0,0,0;may,0,0;may,1,1;"
                    + "book,0,0,5,1"), 0), "5d1h0 p0 v0");
        });
    }

    private static void signs() {
        term("There are no blanks.", () -> {
            error(" man,0", 0);
            error("man ,0", 3);
            error("man, 0", 4);
            error("man,0 ", 5);
            error("man,0 ;man,0", 5);
            error("man,0; man,0", 6);
        });
        term("The text is read from left to right.", () -> {
            error("man,4;may,8,0", 4);
            error("man,3;may,8,z", 10);
            leavesOut(0, "man,0;may,0,0");
            leavesOut(1, "may,0,0;man,0");
            Check.is("a prisoner is there first", Check.loaded("man,0;may,0,0").prisoner(0, 1), 1);
            Check.is("a prisoner comes too late", Check.loaded("may,0,0;man,0").prisoner(0, 1), 0);
        });
    }

    /** Each character at each place of a text that is right up to there: as the model says. */
    private static void eachSignIn(String text) {
        for (int length = 0; length <= text.length(); length++) {
            String ahead = text.substring(0, length);
            StringBuilder allowed = new StringBuilder();
            StringBuilder due = new StringBuilder();
            for (char c = 0; c <= 255; c++) {
                allowed.append(Check.withText(ahead + c).errorPosition()).append(' ');
                Model model = new Model();
                (ahead + c).chars().forEach(model::append);
                due.append(model.errorPosition()).append(' ');
            }
            Check.same("each character behind \"" + ahead + "\"", allowed.toString(), due.toString());
        }
    }

    private static void errorPosition() {
        term("The error position is the index of the first character that these rules do not allow at its place (a letter "
                + "or a digit is not allowed if no word, or no number in its range, begins with it and those before it);",
                () -> {
            error("x", 0);
            error("mx", 1);
            error("max", 2);
            error("bok", 2);
            error("wisp", 3);
            error("hat", 2);
            error("rum", 2);
            error("mann", 3);
            error("MAN,0", 0);
            error("man;0", 3);
            error("man,\u00ff", 4);
            error("\u0000", 0);
            error("man,3;run,3;run,32", 17);
            String[] texts = {"man,3", "man,0;may,7,9", "book,7,9,99,7", "book,0,0,0,0;", "wish,7,9", "has,9", "run,30",
                "run,3", "run,1", "book,1,1,10,1"};
            for (String text : texts) {
                eachSignIn(text);
            }
        });
        term("if the text ends too soon, it is the length of the text.", () -> {
            String whole = "book,7,9,99,7;man,0;wish,0,0";
            for (int length = 0; length < whole.length(); length++) {
                String text = whole.substring(0, length);
                error(text, text.matches("book,7,9,99,7|book,7,9,99,7;man,0") ? NONE : length);
            }
            error(whole, NONE);
        });
    }

    private static void append() {
        Edge.plain("Promise 2", "Appends a character to the text buffer.");
        Edge.test("Promise 2", "`c`: character code, 0 to 255", () -> {
            Edge.inside("code", 0, 255, VisitHours::new, VisitHours::append);
            VisitHours x = Check.withText("man,");
            x.append(255);
            Check.is("255 is not allowed in a prison", x.errorPosition(), 4);
        });
        Edge.test("Promise 2", "Returns the new length of the text.", () -> {
            VisitHours x = new VisitHours();
            for (int length = 1; length <= 120; length++) {
                Check.is("length", x.append('a'), length);
            }
        });
        Edge.test("Promise 2", "Throws `IllegalArgumentException` if c is out of range", () -> {
            Edge.noArgument("code", 0, 255, Prisons::some, VisitHours::append);
            Edge.noArgument("code with 120 characters", 0, 255, Prisons::written, VisitHours::append);
        });
        Edge.test("Promise 2", "Throws `IllegalStateException` if the text already has 120 characters", () -> {
            Check.is("119 characters", Check.withText("a".repeat(119)).append(0), 120);
            Check.state("120 characters, 0", Prisons::written, y -> y.append(0));
            Check.state("120 characters, 255", Prisons::written, y -> y.append(255));
        });
    }

    private static void clearText() {
        Edge.test("Promise 3", "Empties the text buffer.", () -> {
            VisitHours x = Prisons.written();
            x.clearText();
            Check.is("nothing is there", x.errorPosition(), 0);
            Check.is("120 fit again", fill(x), 120);
            VisitHours y = Prisons.some();
            y.clearText();
            Check.same("the state stays", Check.visible(y), Check.visible(Prisons.some()));
        });
        Edge.test("Promise 3", "Returns the previous length of the text.", () -> {
            Check.is("of nothing", new VisitHours().clearText(), 0);
            Check.is("of one", Check.withText("z").clearText(), 1);
            VisitHours x = Prisons.written();
            Check.is("of 120", x.clearText(), 120);
            Check.is("once more", x.clearText(), 0);
        });
    }

    private static int fill(VisitHours x) {
        int length = 0;
        while (length < 120) {
            length = x.append('z');
        }
        return length;
    }

    private static void check() {
        Edge.plain("Promise 4", "Checks the text.");
        Edge.test("Promise 4", "Returns the error position of the text; NONE if it is a prison.", () -> {
            error("", 0);
            error("m", 1);
            error("man,0", NONE);
            error("q", 0);
            Check.is("120 characters", Prisons.written().errorPosition(), NONE);
            Check.looks("it changes nothing", 119, () -> Check.withText("man,1;".repeat(19) + "man,1z"),
                    VisitHours::errorPosition);
        });
    }

    private static void load() {
        Edge.test("Promise 5", "Returns the number of commands that are left out.", () -> {
            leavesOut(0, "man,0");
            leavesOut(1, "may,0,0");
            leavesOut(15, "may,0,0" + ";may,0,0".repeat(14));
            leavesOut(0, "run,30;" + "run,1;".repeat(17) + "man,1;run,1");
        });
        Edge.test("Promise 5", "Throws `IllegalStateException` if the text is not a prison", () -> {
            Check.state("nothing", VisitHours::new, VisitHours::load);
            Check.state("cleared", () -> with("", true), VisitHours::load);
            Check.state("an error at the end", () -> with(";", false), VisitHours::load);
            Check.state("an error behind commands", () -> with(";man,3;man,4", false), VisitHours::load);
            Check.state("too short", () -> with(";run,", false), VisitHours::load);
            Check.state("120 characters", () -> Check.withText("man,1;".repeat(20)), VisitHours::load);
        });
    }

    /** Something of everything, and this behind its text, or instead of it. */
    private static VisitHours with(String text, boolean instead) {
        VisitHours x = Prisons.remembering();
        if (instead) {
            x.clearText();
        }
        Check.write(x, text);
        return x;
    }

    private static VisitHours saved() {
        VisitHours x = Prisons.remembering();
        x.save(1);
        x.set(0, 4);
        x.keepApart(1, 2, true);
        x.addPrisoner(2);
        x.run(9);
        x.load();
        return x;
    }

    private static void loadAnew() {
        Edge.test("Promise 5", "Makes everything as in a new object, and then does the commands of the text.", () -> {
            Check.same("as in a new object", Check.everything(TextEdges::saved), Check.everything(() -> Check.loaded(
                    "man,3;man,1;man,0;may,0,0;may,0,1;may,1,1;may,2,2;run,3")));
            VisitHours x = Check.loaded("man,0");
            x.load();
            Check.is("loaded twice", x.about(0), 1);
        });
        Edge.test("Promise 5", "Behind it no state is remembered, and both save slots are empty.", () -> {
            Check.state("undo", () -> Check.loaded("man,3;run,1;run,1"), VisitHours::undo);
            Check.state("undo of what was ahead of it", TextEdges::saved, VisitHours::undo);
            Check.state("the slot 0", TextEdges::saved, y -> y.restore(0));
            Check.state("the slot 1", TextEdges::saved, y -> y.restore(1));
        });
        Edge.test("Promise 5", "Keeps the text.", () -> {
            Check.is("its length", Check.loaded("man,3;run,1").clearText(), 11);
            VisitHours x = Prisons.written();
            x.load();
            Check.is("120 characters", x.clearText(), 120);
        });
    }
}
