/** Prisons that tests begin with. Each call makes a new one, always the same. */
final class Prisons {
    private Prisons() {
    }

    static VisitHours none() {
        return new VisitHours();
    }

    /** This many prisoners of the rank 3, each with the visitors 0 to 9. */
    static VisitHours open(int prisoners) {
        VisitHours x = new VisitHours();
        for (int p = 0; p < prisoners; p++) {
            x.addPrisoner(3);
            for (int v = 0; v <= 9; v++) {
                x.list(p, v, true);
            }
        }
        return x;
    }

    /** The same; of the first eight visitors nobody is searched for being the one in turn. */
    static VisitHours unsearched(int prisoners) {
        VisitHours x = open(prisoners);
        x.set(1, 9);
        return x;
    }

    /** The same; each visitor is searched. */
    static VisitHours searched(int prisoners) {
        VisitHours x = open(prisoners);
        x.set(1, 1);
        return x;
    }

    /** A prisoner with all visitors, and so many days that have gone by. */
    static VisitHours onDay(int day) {
        VisitHours x = open(1);
        for (int i = 0; i < day / 30; i++) {
            x.run(30);
        }
        for (int i = 0; i < day % 30; i++) {
            x.run(1);
        }
        return x;
    }

    /**
     * Something of everything: three prisoners, today is the day 3, two bookings, a wish, a text, the slot 0, seven
     * states that are remembered.
     */
    static VisitHours some() {
        VisitHours x = Check.loaded("man,3;man,1;man,0;may,0,0;may,0,1;may,1,1;may,2,2;run,3");
        x.save(0);
        x.book(0, 0, 3, 0);
        x.book(1, 1, 4, 0);
        x.late(1, 20);
        x.carry(1, true);
        x.wish(2, 2);
        x.punish(2, 5);
        x.keepApart(0, 1, true);
        return x;
    }

    /** The same with 14 states, and older ones that are forgotten. */
    static VisitHours remembering() {
        VisitHours x = some();
        for (int minutes = 20; minutes < 30; minutes++) {
            x.set(5, minutes);
        }
        return x;
    }

    static VisitHours eight() {
        return Check.loaded("man,0;man,1;man,2;man,3;man,0;man,1;man,2;man,3");
    }

    /** 24 bookings: each of the eight prisoners has one on each of the days 0, 1 and 2, in the hours 0 to 3. */
    static VisitHours full() {
        VisitHours x = new VisitHours();
        for (int p = 0; p < 8; p++) {
            x.addPrisoner(3);
            x.list(p, p, true);
        }
        for (int k = 0; k < 24; k++) {
            x.book(k % 8, k % 8, k / 8, k % 8 / 2);
        }
        return x;
    }

    /** Ten wishes of a prisoner of the rank 0. */
    static VisitHours wishing() {
        VisitHours x = Check.loaded("man,0;may,0,0;may,0,1");
        for (int i = 0; i < 10; i++) {
            x.wish(0, i % 2);
        }
        return x;
    }

    /** A text of 120 characters, which is a prison. */
    static VisitHours written() {
        return Check.withText("run,30;" + "run,1;".repeat(17) + "man,1;run,1");
    }

    /** All hours of the day are taken by the prisoners 0 and 1 but for the last ones; there is one booth. */
    static VisitHours taken(int day, int hours) {
        VisitHours x = open(4);
        x.set(0, 1);
        for (int hour = 0; hour < hours; hour++) {
            x.book(hour / 4, hour / 4, day, hour);
        }
        return x;
    }
}
