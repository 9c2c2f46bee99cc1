import java.math.BigInteger;

/** The sentences of the promises 30 and 31. */
final class ScriptEdges {
    private static final int NONE = VisitHours.NONE;
    private static final long FACTOR = 6364136223846793005L;
    private static final long ADDEND = 1442695040888963407L;
    private static final BigInteger LONGS = BigInteger.ONE.shiftLeft(64);

    private ScriptEdges() {
    }

    static void all() {
        scripts();
        commandsOne();
        commandsTwo();
        commandsThree();
        failures();
        scriptNumbers();
        scriptRefused();
        seeds();
        turns();
        turnsOfDays();
        simulated();
    }

    private static void script(String words, Runnable checks) {
        Edge.test("Promise 30", words, checks);
    }

    /**
     * Today is the day 1; the visitor 1 has a ban up to 15, the prisoner 0 has lost privileges up to 8; both prisoners
     * had a visit; a booking of the day 9, a wish.
     */
    private static final String SOME = "man,3;man,1;may,0,0;may,0,1;may,1,2;has,1;book,0,0,0,0;book,1,2,0,0;book,0,1,0,1;run,1;"
            + "wish,0,0";

    private static VisitHours some() {
        VisitHours x = Check.loaded(SOME);
        x.book(0, 0, 9, 0);
        return x;
    }

    private static Model someModel() {
        Model model = new Model();
        SOME.chars().forEach(model::append);
        model.load();
        model.book(0, 0, 9, 0);
        return model;
    }

    private static void answers(int due, int n, long script) {
        Check.is("runScript(" + n + ", " + script + ")", some().runScript(n, script), due);
    }

    private static void scripts() {
        script("Runs a script on a copy of the state.", () -> {
            long[] scripts = {10089, 20000, 30901, 49001, 51099, 60030, 60030_20000_90000L, 30901_10981_51050L};
            for (long script : scripts) {
                int due = some().runScript(script < 100000 ? 1 : 3, script);
                Check.looks("runScript of " + script, due, ScriptEdges::some, y -> y.runScript(script < 100000 ? 1 : 3, script));
            }
            VisitHours x = some();
            Check.is("ten days", x.runScript(1, 60010), NONE);
            Check.is("are not there for the next script", x.runScript(1, 70002), 0);
        });
        script("A script has 1 to 3 commands; each is a group of five decimal digits d1 to d5, and the first command is the "
                + "highest group of the number (with zeros before it, if it has fewer digits).", () -> {
            answers(NONE, 1, 60001);
            answers(NONE, 2, 60001_60001L);
            answers(NONE, 3, 60001_60001_60001L);
            answers(0, 3, 0_60001_60001L);
            answers(0, 3, 60001);
            answers(0, 2, 60001);
            answers(0, 1, 6001);
            answers(0, 1, 0);
            answers(0, 3, 0);
            answers(1, 2, 60001_90000L);
            answers(0, 2, 90000_60001L);
            answers(2, 3, 60009_90000_99900L);
        });
    }

    private static VisitHours eight() {
        VisitHours x = Prisons.eight();
        x.list(7, 9, true);
        x.run(3);
        return x;
    }

    private static void ofEight(int due, int n, long script) {
        Check.is("eight: runScript(" + n + ", " + script + ")", eight().runScript(n, script), due);
    }

    private static void commandsOne() {
        script("1 p v a h: book(p, v, today + a, h).", () -> {
            ofEight(NONE, 1, 17900);
            ofEight(NONE, 1, 17997);
            ofEight(0, 1, 17998);
            ofEight(0, 1, 17999);
            ofEight(0, 1, 18900);
            ofEight(0, 1, 17800);
            ofEight(1, 2, 17997_17997L);
            ofEight(NONE, 3, 60008_17900_90001L);
            ofEight(2, 3, 60008_17900_90000L);
            Check.is("the day 9999", Prisons.onDay(9990).runScript(1, 10097), NONE);
            Check.is("the day 10000", Prisons.onDay(9991).runScript(1, 10097), 0);
        });
        script("2 p v 0 0: wish(p, v).", () -> {
            ofEight(NONE, 1, 27900);
            ofEight(0, 1, 27800);
            ofEight(0, 1, 28900);
            ofEight(0, 1, 27901);
            ofEight(0, 1, 27910);
            ofEight(NONE, 3, 27900_60001_77001L);
            VisitHours nine = Prisons.wishing();
            nine.undo();
            Check.is("the tenth wish", nine.runScript(1, 20000), NONE);
            Check.is("the eleventh wish", Prisons.wishing().runScript(1, 20000), 0);
        });
        script("3 p v 0 b: list(p, v, b is 1).", () -> {
            ofEight(NONE, 1, 37901);
            ofEight(NONE, 1, 37900);
            ofEight(0, 1, 37902);
            ofEight(0, 1, 37911);
            ofEight(0, 1, 38901);
            ofEight(NONE, 2, 30001_10000L);
            ofEight(1, 2, 37900_17900L);
        });
    }

    private static void commandsTwo() {
        script("4 v 0 0 b: carry(v, b is 1).", () -> {
            answers(NONE, 1, 40001);
            answers(NONE, 1, 49000);
            answers(NONE, 1, 49001);
            answers(0, 1, 49002);
            answers(0, 1, 49101);
            answers(0, 1, 49011);
            VisitHours x = Prisons.searched(1);
            x.book(0, 0, 0, 0);
            Check.is("found", x.runScript(3, 40001_60001_80000L), 2);
            Check.is("not found", x.runScript(3, 40000_60001_80000L), NONE);
        });
        script("5 p 0 d d: punish(p, dd).", () -> {
            answers(NONE, 1, 50000);
            answers(NONE, 1, 51099);
            answers(0, 1, 52000);
            answers(0, 1, 51100);
            answers(NONE, 2, 50000_10007L);
            answers(NONE, 2, 50007_10077L);
            answers(1, 2, 50008_10077L);
        });
        script("6 0 0 n n: run(nn).", () -> {
            answers(0, 1, 60000);
            answers(NONE, 1, 60001);
            answers(NONE, 1, 60030);
            answers(0, 1, 60031);
            answers(0, 1, 60099);
            answers(0, 1, 60101);
            answers(0, 1, 61001);
            answers(NONE, 3, 60030_60030_60030L);
        });
    }

    private static void commandsThree() {
        script("7 p 0 n n: succeeds if the prisoner p had at least nn visits so far.", () -> {
            answers(NONE, 1, 70000);
            answers(NONE, 1, 70001);
            answers(0, 1, 70002);
            answers(NONE, 1, 71001);
            answers(0, 1, 72000);
            answers(0, 1, 70101);
            ofEight(NONE, 1, 77000);
            ofEight(0, 1, 77001);
            answers(NONE, 2, 60009_70002L);
            answers(1, 2, 60006_70002L);
        });
        script("8 v 0 0 0: succeeds if there is no ban for the visitor v today.", () -> {
            answers(NONE, 1, 80000);
            answers(0, 1, 81000);
            answers(NONE, 1, 89000);
            answers(1, 2, 60013_81000L);
            answers(NONE, 2, 60014_81000L);
            answers(0, 1, 80001);
            answers(0, 1, 80010);
            answers(0, 1, 80100);
        });
        script("9 0 0 n n: succeeds if there are at most nn bookings.", () -> {
            answers(0, 1, 90000);
            answers(NONE, 1, 90001);
            answers(NONE, 1, 90099);
            answers(0, 1, 90101);
            answers(0, 1, 91001);
            Check.is("24 of 24", Prisons.full().runScript(1, 90024), NONE);
            Check.is("24 of 23", Prisons.full().runScript(1, 90023), 0);
            Check.is("none", new VisitHours().runScript(1, 90000), NONE);
        });
    }

    private static void failures() {
        script("The commands 1 to 6 fail if the method would throw an exception; commands with prisoners or visitors that do "
                + "not exist fail,", () -> {
            for (int p = 2; p <= 9; p++) {
                answers(0, 1, 10000 + 1000 * p);
                answers(0, 1, 20000 + 1000 * p);
                answers(0, 1, 30001 + 1000 * p);
                answers(0, 1, 50001 + 1000 * p);
                answers(0, 1, 70000 + 1000 * p);
            }
            for (int command = 1; command <= 7; command++) {
                if (command != 4 && command != 6) {
                    Check.is("nobody, " + command, new VisitHours().runScript(1, 10000 * command), 0);
                }
            }
            answers(0, 1, 10200);
            answers(0, 1, 10000);
            answers(0, 1, 20200);
            answers(1, 3, 60001_60000_60001L);
        });
        script("and so does any other group (also one with another digit where a 0 is written, or a b above 1).", () -> {
            Model model = someModel();
            VisitHours x = some();
            int calls = 0;
            for (int group = 0; group <= 99999; group++) {
                if (calls++ % 400 == 0) {
                    x = some();
                }
                int due = model.runScript(1, group);
                if (x.runScript(1, group) != due) {
                    Check.is("runScript(1, " + group + ")", x.runScript(1, group), due);
                }
            }
            answers(0, 1, 0);
            answers(0, 1, 9999);
            answers(0, 1, 99999);
        });
    }

    private static void scriptNumbers() {
        script("nn and dd are decimal numbers.", () -> {
            answers(NONE, 2, 60010_70003L);
            answers(1, 2, 60008_70003L);
            answers(1, 2, 50010_10097L);
            answers(NONE, 2, 50009_10097L);
            VisitHours x = Prisons.full();
            for (int k = 0; k < 12; k++) {
                x.cancel(0);
            }
            Check.is("at most 12", x.runScript(1, 90012), NONE);
            Check.is("at most 11", x.runScript(1, 90011), 0);
        });
        script("`n`: number of commands, 1 to 3", () ->
            Edge.inside("n", 1, 3, ScriptEdges::some, (y, n) -> y.runScript(n, 0)));
        script("`script`: the commands, a number of at most 5 * n digits (0 or more)", () -> {
            answers(0, 1, 0);
            answers(0, 1, 99999);
            answers(0, 2, 99999_99999L);
            answers(0, 3, 99999_99999_99999L);
            answers(0, 2, 9);
        });
        script("Returns the index, from 0, of the first command that fails; NONE if all succeed.", () -> {
            answers(0, 3, 60000_60001_60001L);
            answers(1, 3, 60001_60000_60001L);
            answers(2, 3, 60001_60001_60000L);
            answers(NONE, 3, 60001_60001_60001L);
            answers(0, 3, 60000_60000_60000L);
            answers(1, 3, 60001_60000_60000L);
        });
    }

    private static void scriptRefused() {
        script("Throws `IllegalArgumentException` if n is out of range, or if script is negative or has more than 5 * n digits",
                () -> {
            Edge.noArgument("n", 1, 3, Prisons::remembering, (y, n) -> y.runScript(n, 60001));
            Edge.noArgument("n, and 0", 1, 3, Prisons::remembering, (y, n) -> y.runScript(n, 0));
            Edge.noArgument("n, and -1", 1, 3, Prisons::remembering, (y, n) -> y.runScript(n, -1));
            long most = 99999;
            for (int n = 1; n <= 3; n++) {
                int commands = n;
                long[] wrong = {most + 1, most + 60002, -1, -60001, Long.MIN_VALUE, Long.MAX_VALUE, (1L << 32) * most + 60001,
                    Long.MIN_VALUE + 60001};
                for (long script : wrong) {
                    Check.argument("runScript(" + n + ", " + script + ")", Prisons::remembering,
                            y -> y.runScript(commands, script));
                }
                most = most * 100000 + 99999;
            }
        });
    }

    // ---- simulations

    private static void turn(String words, Runnable checks) {
        Edge.test("Promise 31", words, checks);
    }

    /** What x becomes in the next turn, by numbers that have no greatest one. */
    private static BigInteger next(BigInteger x) {
        return x.multiply(BigInteger.valueOf(FACTOR)).add(BigInteger.valueOf(ADDEND)).mod(LONGS);
    }

    private static int number(BigInteger x) {
        return x.shiftRight(33).intValueExact();
    }

    /** A seed with which the r of the first turn is this one, and that of the second is one by which a day goes by. */
    private static long seedThenRun(int r) {
        for (long low = 0; true; low++) {
            BigInteger x = BigInteger.valueOf(r).shiftLeft(33).add(BigInteger.valueOf(low));
            if (number(next(x)) % 8 >= 6) {
                return seedFor(x);
            }
        }
    }

    private static long seedFor(BigInteger x) {
        BigInteger inverse = BigInteger.valueOf(FACTOR).modInverse(LONGS);
        return x.subtract(BigInteger.valueOf(ADDEND)).multiply(inverse).mod(LONGS).longValue();
    }

    private static long seed(int r) {
        return seedFor(BigInteger.valueOf(r).shiftLeft(33));
    }

    private static void seeds() {
        Edge.plain("Promise 31", "Simulates m turns on a copy of the state.");
        turn("A long x starts as the seed. Each turn first replaces x by x * 6364136223846793005L + 1442695040888963407L (with "
                + "long overflow), and r = (int) (x >>> 33) is computed.", () -> {
            long[] seeds = {0, 1, -1, Long.MAX_VALUE, Long.MIN_VALUE, Long.MAX_VALUE - 1, Long.MIN_VALUE + 1, 1L << 33,
                -(1L << 33), FACTOR, -ADDEND, 123456789};
            for (long seed : seeds) {
                for (int m : new int[] {1, 2, 3, 10, 59, 60}) {
                    Check.is("simulate(" + seed + ", " + m + ")", busy().simulate(seed, m), onItself(busy(), seed, m));
                }
            }
        });
        turn("`seed`: any long", () -> {
            for (int bit = 0; bit < 64; bit++) {
                long seed = 1L << bit;
                Check.is("simulate(" + seed + ", 20)", busy().simulate(seed, 20), onItself(busy(), seed, 20));
                Check.is("simulate(" + ~seed + ", 20)", busy().simulate(~seed, 20), onItself(busy(), ~seed, 20));
            }
        });
        turn("`m`: number of turns, 1 to 60", () -> {
            for (int m = 1; m <= 60; m++) {
                Check.is("simulate(7, " + m + ")", busy().simulate(7, m), onItself(busy(), 7, m));
            }
        });
    }

    private static VisitHours busy() {
        VisitHours x = Prisons.open(8);
        for (int p = 0; p < 8; p++) {
            x.book(p, p, p / 4, p);
        }
        x.wish(7, 9);
        x.run(1);
        return x;
    }

    /** The turns, done one after another by calls of the object itself. */
    private static int onItself(VisitHours x, long seed, int m) {
        int before = x.about(4);
        BigInteger state = BigInteger.valueOf(seed).mod(LONGS);
        for (int turn = 0; turn < m; turn++) {
            state = next(state);
            int r = number(state);
            Check.outcome(x, y -> act(y, r));
        }
        return 100 * (x.about(4) - before) + x.about(2);
    }

    private static int act(VisitHours x, int r) {
        int p = r / 8 % 8;
        int v = r / 64 % 10;
        int kind = r % 8;
        return kind <= 1 ? x.book(p, v, x.about(1) + r / 1024 % 5, r / 8192 % 8) : kind == 2 ? x.wish(p, v)
                : kind == 3 ? x.list(p, v, true) : kind == 4 ? x.carry(v, true)
                : kind == 5 ? x.late(r / 8 % 24, r / 1024 % 40) : x.run(1);
    }

    /** The least r of this kind, prisoner, visitor, days ahead and hour. */
    private static int numberOf(int kind, int p, int v, int days, int hour) {
        for (int r = kind + 8 * p; true; r += 64) {
            if (r / 64 % 10 == v && r / 1024 % 5 == days && r / 8192 % 8 == hour) {
                return r;
            }
        }
    }

    private static void turns() {
        turn("p is r / 8 % 8, v is r / 64 % 10. By r % 8: 0 and 1: book(p, v, today + r / 1024 % 5, r / 8192 % 8).", () -> {
            for (int kind = 0; kind <= 1; kind++) {
                for (int days = 0; days <= 4; days++) {
                    for (int hour = 0; hour <= 7; hour++) {
                        VisitHours x = new VisitHours();
                        for (int p = 0; p < 8; p++) {
                            x.addPrisoner(3);
                        }
                        x.list(7, 9, true);
                        x.run(2);
                        int r = numberOf(kind, 7, 9, days, hour);
                        Check.is("one booking", x.simulate(seed(r), 1), 1);
                        x.book(7, 9, 2 + days, hour);
                        Check.is("the hour is taken", x.simulate(seed(r), 1), 1);
                        Check.is("another prisoner", x.simulate(seed(numberOf(kind, 6, 9, days, 7 - hour)), 1), 1);
                        Check.is("another visitor", x.simulate(seed(numberOf(kind, 7, 8, days, 7 - hour)), 1), 1);
                        Check.is("another hour", x.simulate(seed(numberOf(kind, 7, 9, days, 7 - hour)), 1), 2);
                    }
                }
            }
        });
        turn("2: wish(p, v).", () -> {
            VisitHours x = Prisons.eight();
            x.list(7, 9, true);
            Check.is("held a turn later", x.simulate(seedThenRun(numberOf(2, 7, 9, 0, 0)), 2), 100);
            Check.is("not on the list", x.simulate(seedThenRun(numberOf(2, 7, 8, 0, 0)), 2), 0);
        });
        turn("3: list(p, v, true).", () -> {
            int r = numberOf(3, 7, 9, 0, 0);
            for (long low = 0; true; low++) {
                BigInteger first = BigInteger.valueOf(r).shiftLeft(33).add(BigInteger.valueOf(low));
                int second = number(next(first));
                if (second % 8 <= 1 && second / 8 % 8 == 7 && second / 64 % 10 == 9) {
                    Check.is("on the list, and booked", Prisons.eight().simulate(seedFor(first), 2), 1);
                    Check.is("not on the list", Prisons.eight().simulate(seed(second), 1), 0);
                    break;
                }
            }
        });
        turn("4: carry(v, true).", () -> {
            VisitHours x = Prisons.searched(8);
            x.book(7, 9, 0, 0);
            Check.is("found", x.simulate(seedThenRun(numberOf(4, 0, 9, 0, 0)), 2), 0);
            Check.is("another one carries something", x.simulate(seedThenRun(numberOf(4, 0, 8, 0, 0)), 2), 100);
        });
    }

    /** The r of a call of late for this booking and these minutes. */
    private static int numberOfLate(int booking, int minutes) {
        for (int r = 5; true; r += 8) {
            if (r / 8 % 24 == booking && r / 1024 % 40 == minutes) {
                return r;
            }
        }
    }

    private static void turnsOfDays() {
        turn("5: late(r / 8 % 24, r / 1024 % 40).", () -> {
            VisitHours x = Prisons.unsearched(1);
            x.book(0, 0, 0, 0);
            Check.is("15 minutes", x.simulate(seedThenRun(numberOfLate(0, 15)), 2), 100);
            Check.is("16 minutes", x.simulate(seedThenRun(numberOfLate(0, 16)), 2), 0);
            Check.is("39 minutes", x.simulate(seedThenRun(numberOfLate(0, 39)), 2), 0);
            Check.is("of a booking that is not there", x.simulate(seedThenRun(numberOfLate(1, 39)), 2), 100);
            VisitHours full = Prisons.full();
            full.run(2);
            Check.is("the last of eight", full.simulate(seedThenRun(numberOfLate(7, 39)), 2), 700);
            Check.is("behind it", full.simulate(seedThenRun(numberOfLate(8, 39)), 2), 800);
            VisitHours all = Prisons.full();
            all.set(5, 38);
            all.set(4, 0);
            Check.is("the last of 24", lastOfAll(all), 3);
        });
        turn("Otherwise: run(1).", () -> {
            VisitHours x = Prisons.full();
            Check.is("r 6", x.simulate(seed(6), 1), 816);
            Check.is("r 7", x.simulate(seed(7), 1), 816);
            Check.is("the greatest r", x.simulate(seed(Integer.MAX_VALUE), 1), 816);
            Check.is("the one ahead of it", x.simulate(seed(Integer.MAX_VALUE - 1), 1), 816);
            Check.is("r 5", x.simulate(seed(5), 1), 24);
        });
        turn("What would throw an exception is left out.", () -> {
            for (int kind = 0; kind <= 5; kind++) {
                Check.looks("nobody there, " + kind, 0, VisitHours::new, y -> y.simulate(seed(0), 1));
            }
            for (int kind = 0; kind <= 3; kind++) {
                long seed = seedThenRun(numberOf(kind, 7, 9, 0, 0));
                Check.is("no such prisoner, " + kind, Prisons.open(7).simulate(seed, 2), 0);
            }
            VisitHours end = Prisons.onDay(9999);
            Check.is("a booking of today", end.simulate(seed(numberOf(0, 0, 0, 0, 0)), 1), 1);
            Check.is("none of tomorrow", end.simulate(seed(numberOf(0, 0, 0, 1, 0)), 1), 0);
            Check.is("24 bookings", Prisons.full().simulate(seed(numberOf(0, 0, 0, 3, 7)), 1), 24);
        });
    }

    /** What becomes of the last booking when it is 39 minutes late. */
    private static int lastOfAll(VisitHours x) {
        act(x, numberOfLate(23, 39));
        return x.becomes(23);
    }

    private static void simulated() {
        turn("Returns 100 * (the visits held in them) + (the bookings at the end).", () -> {
            Check.is("nobody there", new VisitHours().simulate(42, 60), 0);
            VisitHours x = Prisons.full();
            x.run(1);
            Check.is("only those held in them", x.simulate(seed(6), 1), 808);
            Check.is("none held", x.simulate(seed(5), 1), 16);
            Check.looks("it changes nothing", busy().simulate(42, 60), ScriptEdges::busy, y -> y.simulate(42, 60));
        });
        turn("Throws `IllegalArgumentException` if m is out of range", () ->
            Edge.noArgument("turns", 1, 60, Prisons::remembering, (y, m) -> y.simulate(Long.MAX_VALUE, m)));
    }
}
