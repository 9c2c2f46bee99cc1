import java.util.Random;
import java.util.function.ToIntFunction;

/** Long runs of calls, chosen by fixed seeds, on the program and on the model: each answer must be the same. */
public final class ModelTest {
    private static final int RUNS = 1500;
    private static final int CALLS = 512;

    /** One call for both. */
    private record Pair(String name, ToIntFunction<VisitHours> real, ToIntFunction<Model> due) {
    }

    private static String outcome(java.util.function.IntSupplier call) {
        try {
            return Integer.toString(call.getAsInt());
        } catch (RuntimeException e) {
            return e.getClass().getSimpleName();
        }
    }

    private final Random random;
    private final VisitHours x = new VisitHours();
    private final Model model = new Model();
    private String toWrite = "";
    private int opening = 0;
    private final boolean wild;
    private final boolean far;
    /** Many prisoners with long lists and high ranks, and few days that go by: hours and weeks become full. */
    private final boolean dense;

    private ModelTest(long seed) {
        random = new Random(seed);
        wild = seed % 5 == 0;
        far = seed % 7 == 0;
        dense = seed % 2 == 0;
    }

    /** Mostly a number from least to most, now and then one beside them or far away. */
    private int number(int least, int most) {
        int chance = random.nextInt(wild ? 20 : 80);
        if (chance == 0) return least - 1;
        if (chance == 1) return most + 1;
        if (chance == 2) {
            int[] odd = {Integer.MIN_VALUE, Integer.MAX_VALUE, -1, 0, 1, 8, 10, 100, 1 << 16};
            return odd[random.nextInt(odd.length)];
        }
        return least + random.nextInt(most - least + 1);
    }

    private int prisoner() {
        return number(0, Math.max(0, model.about(0) - 1));
    }

    private int visitor() {
        return random.nextInt(10);
    }

    private int visitorOdd() {
        return number(0, 9);
    }

    private int slot() {
        return number(0, 1);
    }

    private int bookingNumber() {
        return number(0, Math.max(0, model.about(2) - 1));
    }

    private int day() {
        int today = model.about(1);
        int chance = random.nextInt(30);
        if (chance == 0) return 9999;
        if (chance == 1) return 10000;
        if (chance == 2) return today - 1;
        if (chance < 6) return today + random.nextInt(80);
        return today + random.nextInt(8);
    }

    private String command() {
        int p = random.nextInt(4);
        int v = random.nextInt(10);
        switch (random.nextInt(wild ? 8 : 7)) {
            case 0: return "man," + random.nextInt(4);
            case 1: return "may," + p + "," + v;
            case 2: return "book," + p + "," + v + "," + random.nextInt(random.nextBoolean() ? 100 : 4) + ","
                    + random.nextInt(8);
            case 3: return "wish," + p + "," + v;
            case 4: return "has," + v;
            case 5: return "run," + (1 + random.nextInt(random.nextBoolean() ? 30 : 3));
            case 6: return "man,3";
            default: return "run,";
        }
    }

    private String text() {
        StringBuilder text = new StringBuilder("man,3;may,0,1;may,0,2");
        int most = random.nextInt(14);
        for (int i = 0; i < most; i++) {
            text.append(';').append(command());
        }
        if (random.nextInt(4) == 0) {
            String odd = "0123456789,;mabwhr !p+\u00ff\u0000";
            text.setCharAt(random.nextInt(text.length()), odd.charAt(random.nextInt(odd.length())));
        }
        return random.nextInt(5) == 0 ? text.substring(random.nextInt(text.length())) : text.toString();
    }

    private Pair append(int c) {
        return new Pair("append(" + c + ")", o -> o.append(c), o -> o.append(c));
    }

    private Pair open() {
        opening++;
        if (opening <= 8) {
            int rank = random.nextInt(4) == 0 ? random.nextInt(4) : 3;
            return new Pair("addPrisoner(" + rank + ")", o -> o.addPrisoner(rank), o -> o.addPrisoner(rank));
        }
        int p = opening % 8;
        int v = random.nextInt(10);
        return new Pair("list(" + p + ", " + v + ", true)", o -> o.list(p, v, true), o -> o.list(p, v, true));
    }

    private int listed(int p) {
        for (int tries = 0; tries < 20; tries++) {
            int v = random.nextInt(10);
            if (p >= 0 && p < model.about(0) && (model.prisoner(p, 1) >> v & 1) == 1) return v;
        }
        return random.nextInt(10);
    }

    private Pair choose() {
        if (dense && opening < 60) {
            return open();
        }
        if (!toWrite.isEmpty()) {
            char c = toWrite.charAt(0);
            toWrite = toWrite.substring(1);
            return append(c);
        }
        return random.nextInt(3) == 0 ? look() : random.nextInt(12) == 0 ? rare() : action();
    }

    private Pair rare() {
        int slot = slot();
        switch (random.nextInt(12)) {
            case 0:
                if (random.nextInt(4) != 0) return choose();
                toWrite = text();
                return new Pair("clearText()", VisitHours::clearText, Model::clearText);
            case 1:
            case 2:
                if (dense && random.nextInt(10) != 0) return choose();
                return new Pair("load()", VisitHours::load, Model::load);
            case 3: return new Pair("errorPosition()", VisitHours::errorPosition, Model::errorPosition);
            case 4:
            case 5: return new Pair("save(" + slot + ")", o -> o.save(slot), o -> o.save(slot));
            case 6: return new Pair("restore(" + slot + ")", o -> o.restore(slot), o -> o.restore(slot));
            case 7: return append(number(0, 255));
            default: return new Pair("undo()", VisitHours::undo, Model::undo);
        }
    }

    private Pair action() {
        int p = prisoner();
        int q = prisoner();
        int v = random.nextInt(10) == 0 ? visitorOdd() : random.nextInt(3) == 0 ? visitor() % 5 : listed(p);
        int k = bookingNumber();
        int day = day();
        int hour = random.nextInt(3) == 0 ? number(0, 7) : random.nextInt(2);
        boolean is = random.nextInt(dense ? 20 : 4) != 0;
        switch (dense && random.nextInt(2) == 0 ? 9 : random.nextInt(22)) {
            case 0: {
                int rank = number(0, 3);
                return new Pair("addPrisoner(" + rank + ")", o -> o.addPrisoner(rank), o -> o.addPrisoner(rank));
            }
            case 1: {
                int rank = number(0, 3);
                return new Pair("promote(" + p + ", " + rank + ")", o -> o.promote(p, rank), o -> o.promote(p, rank));
            }
            case 2:
            case 3:
            case 4: return new Pair("list(" + p + ", " + v + ", " + is + ")", o -> o.list(p, v, is),
                    o -> o.list(p, v, is));
            case 5: {
                boolean apart = random.nextInt(2) == 0;
                return new Pair("keepApart(" + p + ", " + q + ", " + apart + ")", o -> o.keepApart(p, q, apart),
                        o -> o.keepApart(p, q, apart));
            }
            case 6:
            case 7:
            case 8:
            case 9:
            case 10:
            case 11: return new Pair("book(" + p + ", " + v + ", " + day + ", " + hour + ")",
                    o -> o.book(p, v, day, hour), o -> o.book(p, v, day, hour));
            case 12: return new Pair("cancel(" + k + ")", o -> o.cancel(k), o -> o.cancel(k));
            case 13:
            case 14: {
                int minutes = number(0, 59);
                return new Pair("late(" + k + ", " + minutes + ")", o -> o.late(k, minutes), o -> o.late(k, minutes));
            }
            case 15: return new Pair("carry(" + v + ", " + is + ")", o -> o.carry(v, is), o -> o.carry(v, is));
            case 16: {
                int days = random.nextInt(3) == 0 ? number(0, 99) : random.nextInt(4);
                return new Pair("punish(" + p + ", " + days + ")", o -> o.punish(p, days), o -> o.punish(p, days));
            }
            case 17:
            case 18: return new Pair("wish(" + p + ", " + v + ")", o -> o.wish(p, v), o -> o.wish(p, v));
            case 19: {
                int n = random.nextInt(far ? 2 : dense ? 40 : 12) == 0 ? number(1, 30) : 1 + random.nextInt(2);
                return new Pair("run(" + n + ")", o -> o.run(n), o -> o.run(n));
            }
            default: return set();
        }
    }

    private Pair set() {
        int what = number(0, 5);
        int[] most = {4, 9, 20, 20, 59, 99};
        int value = what < 0 || what > 5 ? 1 : number(1, random.nextInt(3) == 0 ? most[what] : 3);
        return new Pair("set(" + what + ", " + value + ")", o -> o.set(what, value), o -> o.set(what, value));
    }

    private Pair look() {
        int p = prisoner();
        int v = random.nextInt(3) == 0 ? visitorOdd() : listed(p);
        int k = bookingNumber();
        int day = day();
        int hour = random.nextBoolean() ? number(0, 7) : random.nextInt(2);
        switch (random.nextInt(14)) {
            case 0: {
                int what = number(0, 10);
                return new Pair("about(" + what + ")", o -> o.about(what), o -> o.about(what));
            }
            case 1: {
                int what = number(0, 7);
                return new Pair("prisoner(" + p + ", " + what + ")", o -> o.prisoner(p, what),
                        o -> o.prisoner(p, what));
            }
            case 2: {
                int what = number(0, 4);
                return new Pair("visitor(" + v + ", " + what + ")", o -> o.visitor(v, what), o -> o.visitor(v, what));
            }
            case 3: {
                int what = number(0, 5);
                return new Pair("booking(" + k + ", " + what + ")", o -> o.booking(k, what), o -> o.booking(k, what));
            }
            case 4: {
                int i = number(0, 16);
                return new Pair("line(" + k + ", " + i + ")", o -> o.line(k, i), o -> o.line(k, i));
            }
            case 5: {
                int turn = number(0, 9);
                return new Pair("wishAt(" + turn + ")", o -> o.wishAt(turn), o -> o.wishAt(turn));
            }
            case 6: {
                int what = number(0, 5);
                return new Pair("setting(" + what + ")", o -> o.setting(what), o -> o.setting(what));
            }
            case 7:
            case 8: return new Pair("whyNot(" + p + ", " + v + ", " + day + ", " + hour + ")",
                    o -> o.whyNot(p, v, day, hour), o -> o.whyNot(p, v, day, hour));
            case 9: return new Pair("firstTime(" + p + ", " + v + ")", o -> o.firstTime(p, v), o -> o.firstTime(p, v));
            case 10: {
                int n = number(1, 60);
                int what = number(0, 4);
                return new Pair("coming(" + n + ", " + what + ")", o -> o.coming(n, what), o -> o.coming(n, what));
            }
            case 11: return new Pair("becomes(" + k + ")", o -> o.becomes(k), o -> o.becomes(k));
            case 12: return script();
            default: {
                long seed = random.nextLong();
                int m = number(1, 60);
                return new Pair("simulate(" + seed + ", " + m + ")", o -> o.simulate(seed, m), o -> o.simulate(seed, m));
            }
        }
    }

    private Pair script() {
        int n = number(1, 3);
        long script = 0;
        for (int i = 0; i < n && i < 3; i++) {
            script = script * 100000 + group();
        }
        if (random.nextInt(15) == 0) {
            script = random.nextLong() >> random.nextInt(60);
        }
        long chosen = script;
        return new Pair("runScript(" + n + ", " + chosen + ")", o -> o.runScript(n, chosen),
                o -> o.runScript(n, chosen));
    }

    private int group() {
        int p = random.nextInt(4);
        int v = random.nextInt(10);
        int b = random.nextInt(2);
        switch (random.nextInt(11)) {
            case 0: return random.nextInt(100000);
            case 1: return 10000 + 1000 * p + 100 * v + 10 * random.nextInt(10) + random.nextInt(9);
            case 2: return 20000 + 1000 * p + 100 * v;
            case 3: return 30000 + 1000 * p + 100 * v + b;
            case 4: return 40000 + 1000 * v + b;
            case 5: return 50000 + 1000 * p + random.nextInt(100);
            case 6: return 60000 + random.nextInt(34);
            case 7: return 70000 + 1000 * p + random.nextInt(8);
            case 8: return 80000 + 1000 * v;
            case 9: return 90000 + random.nextInt(8);
            default: return 10000 + 1000 * p + 100 * v + 10 * random.nextInt(3);
        }
    }

    /** Answers whether all answers were the same. */
    private boolean go(long seed) {
        StringBuilder told = new StringBuilder();
        for (int i = 0; i < CALLS; i++) {
            Pair pair = choose();
            String due = outcome(() -> pair.due().applyAsInt(model));
            String got = outcome(() -> pair.real().applyAsInt(x));
            told.append(pair.name()).append(" -> ").append(got).append('\n');
            if (!got.equals(due)) {
                System.out.println("seed " + seed + ", call " + i + ":\n" + told + "due is " + due);
                return false;
            }
        }
        return true;
    }

    public static void main(String[] args) {
        for (long seed = 0; seed < RUNS; seed++) {
            if (!new ModelTest(seed).go(seed)) {
                System.exit(1);
            }
        }
        System.out.println(RUNS + " runs of " + CALLS + " calls are as the model's");
    }
}
