/** Promises 32 and 33: the save slots. */
public final class SlotTest {
    private static VisitHours some() {
        VisitHours x = Check.loaded("man,3;man,1;may,0,0;may,1,1;has,2;run,3;book,0,0,5,1;wish,1,1");
        x.set(5, 30);
        x.punish(1, 4);
        x.keepApart(0, 1, true);
        x.late(0, 9);
        return x;
    }

    private static void change(VisitHours x) {
        x.addPrisoner(2);
        x.promote(0, 0);
        x.list(0, 9, true);
        x.list(1, 1, false);
        x.keepApart(0, 1, false);
        x.late(0, 59);
        x.carry(2, false);
        x.carry(3, true);
        x.punish(1, 99);
        x.set(0, 4);
        x.wish(0, 0);
        x.run(9);
        x.book(0, 0, 99, 7);
    }

    private static void saveAndRestore() {
        for (int slot = 0; slot <= 1; slot++) {
            VisitHours x = some();
            String before = Check.visible(some());
            Check.is("32 save", x.save(slot), 3);
            change(x);
            Check.is("33 today before", x.about(1), 12);
            Check.is("33 restore", x.restore(slot), 3);
            Check.same("33 all is as it was", Check.visible(x), before);
            Check.same("33 nothing is remembered", Check.outcome(x, VisitHours::undo), "IllegalStateException");
            change(x);
            Check.is("33 the slot keeps it", x.restore(slot), 3);
            Check.same("33 all is as it was, again", Check.visible(x), before);
            int other = 1 - slot;
            Check.same("33 the other slot", Check.outcome(x, y -> y.restore(other)), "IllegalStateException");
        }
    }

    private static void whatIsSaved() {
        VisitHours x = some();
        x.save(0);
        x.run(1);
        x.save(1);
        x.run(1);
        Check.is("32 save over it", x.save(0), 5);
        Check.is("33 the slot 1", x.restore(1), 4);
        Check.is("33 the slot 0", x.restore(0), 5);
        x.set(5, 31);
        Check.is("33 an action behind restore", x.undo(), 0);
        Check.is("33 its setting", x.setting(5), 30);
    }

    private static void noActions() {
        VisitHours x = some();
        int remembered = 0;
        x.save(0);
        x.save(1);
        while (!Check.outcome(x, VisitHours::undo).equals("IllegalStateException")) {
            remembered++;
        }
        Check.is("32 save is no action", remembered, 4);
        Check.is("32 undo leaves the slot", x.restore(0), 3);
        Check.is("33 what was saved", x.setting(5), 30);
        VisitHours text = some();
        text.clearText();
        text.save(0);
        text.append('q');
        text.restore(0);
        Check.is("33 the text is no part of it", text.clearText(), 1);
        VisitHours looks = some();
        looks.save(0);
        looks.coming(60, 0);
        looks.runScript(1, 60030);
        looks.simulate(7, 60);
        looks.becomes(0);
        looks.restore(0);
        Check.same("33 looking ahead leaves the slot", Check.visible(looks), Check.visible(some()));
    }

    private static void arguments() {
        Check.index("32 save -1", SlotTest::some, y -> y.save(-1));
        Check.index("32 save 2", SlotTest::some, y -> y.save(2));
        Check.index("33 restore -1", SlotTest::some, y -> y.restore(-1));
        Check.index("33 restore 2", SlotTest::some, y -> y.restore(2));
        Check.state("33 restore 0, nothing saved", SlotTest::some, y -> y.restore(0));
        Check.state("33 restore 1, nothing saved", SlotTest::some, y -> y.restore(1));
        Check.state("33 restore 1, saved in 0", SlotTest::savedInFirst, y -> y.restore(1));
        Check.state("33 restore 0, saved ahead of load", SlotTest::savedThenLoaded, y -> y.restore(0));
    }

    private static VisitHours savedInFirst() {
        VisitHours x = some();
        x.save(0);
        return x;
    }

    private static VisitHours savedThenLoaded() {
        VisitHours x = savedInFirst();
        x.load();
        return x;
    }

    private static void savedBehindLoad() {
        VisitHours x = savedThenLoaded();
        x.save(0);
        x.run(1);
        Check.is("33 saved behind load", x.restore(0), 3);
        Check.is("32 save of a new object", new VisitHours().save(1), 0);
    }

    public static void main(String[] args) {
        saveAndRestore();
        whatIsSaved();
        noActions();
        arguments();
        savedBehindLoad();
        Check.end();
    }
}
