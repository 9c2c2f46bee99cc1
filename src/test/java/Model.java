import java.util.ArrayDeque;
import java.util.ArrayList;
import java.util.Comparator;
import java.util.Deque;
import java.util.HashSet;
import java.util.List;
import java.util.Optional;
import java.util.Set;

/**
 * The document once more, written as plainly as can be and in another way than the program: lists of records, logs
 * that are counted anew for each answer, a set of all beginnings of commands. ModelTest compares both.
 */
final class Model {
    record Wish(int p, int v) {
    }

    record Booking(int day, int hour, int booth, int p, int v, int minutes) {
    }

    record Held(int p, int day) {
    }

    /** All but the text and the save slots. */
    static final class State {
        int today;
        List<Integer> ranks = new ArrayList<>();
        Set<List<Integer>> lists = new HashSet<>();
        Set<Set<Integer>> apart = new HashSet<>();
        int[] lost = new int[8];
        int[] strikes = new int[10];
        int[] bans = new int[10];
        Set<Integer> carrying = new HashSet<>();
        List<Booking> bookings = new ArrayList<>();
        List<Wish> wishes = new ArrayList<>();
        List<Held> log = new ArrayList<>();
        int[] counts = new int[5];
        int[] settings = {2, 3, 14, 7, 10, 15};

        State copy() {
            State c = new State();
            c.today = today;
            c.ranks = new ArrayList<>(ranks);
            c.lists = new HashSet<>(lists);
            c.apart = new HashSet<>(apart);
            c.lost = lost.clone();
            c.strikes = strikes.clone();
            c.bans = bans.clone();
            c.carrying = new HashSet<>(carrying);
            c.bookings = new ArrayList<>(bookings);
            c.wishes = new ArrayList<>(wishes);
            c.log = new ArrayList<>(log);
            c.counts = counts.clone();
            c.settings = settings.clone();
            return c;
        }
    }

    private static final Set<String> COMMANDS = new HashSet<>();
    private static final Set<String> BEGINNINGS = new HashSet<>();

    static {
        for (int rank = 0; rank <= 3; rank++) {
            COMMANDS.add("man," + rank);
        }
        for (int v = 0; v <= 9; v++) {
            COMMANDS.add("has," + v);
            for (int p = 0; p <= 7; p++) {
                COMMANDS.add("may," + p + "," + v);
                COMMANDS.add("wish," + p + "," + v);
                for (int time = 0; time < 800; time++) {
                    COMMANDS.add("book," + p + "," + v + "," + time / 8 + "," + time % 8);
                }
            }
        }
        for (int days = 1; days <= 30; days++) {
            COMMANDS.add("run," + days);
        }
        for (String command : COMMANDS) {
            for (int end = 0; end <= command.length(); end++) {
                BEGINNINGS.add(command.substring(0, end));
            }
        }
    }

    private String text = "";
    private State s = new State();
    private final Deque<State> remembered = new ArrayDeque<>();
    private final State[] slots = new State[2];
    /** What became of the bookings of the last day that went by. */
    private final List<Booking> looked = new ArrayList<>();
    private final List<Integer> fates = new ArrayList<>();

    private static IndexOutOfBoundsException index() {
        return new IndexOutOfBoundsException();
    }

    private static IllegalArgumentException argument() {
        return new IllegalArgumentException();
    }

    private static IllegalStateException state() {
        return new IllegalStateException();
    }

    // ---- text

    int append(int c) {
        if (c < 0 || c > 255) throw argument();
        if (text.length() == 120) throw state();
        text += (char) c;
        return text.length();
    }

    int clearText() {
        int length = text.length();
        text = "";
        return length;
    }

    int errorPosition() {
        String command = "";
        for (int i = 0; i < text.length(); i++) {
            char c = text.charAt(i);
            if (c == ';') {
                if (!COMMANDS.contains(command)) return i;
                command = "";
            } else {
                command += c;
                if (!BEGINNINGS.contains(command)) return i;
            }
        }
        return COMMANDS.contains(command) ? -1 : text.length();
    }

    int load() {
        if (errorPosition() != -1) throw state();
        s = new State();
        int leftOut = 0;
        for (String command : text.split(";")) {
            String[] parts = command.split(",");
            int[] n = new int[4];
            for (int i = 1; i < parts.length; i++) n[i - 1] = Integer.parseInt(parts[i]);
            try {
                switch (parts[0]) {
                    case "man" -> addPrisoner(n[0]);
                    case "may" -> list(n[0], n[1], true);
                    case "book" -> book(n[0], n[1], n[2], n[3]);
                    case "wish" -> wish(n[0], n[1]);
                    case "has" -> carry(n[0], true);
                    case "run" -> run(n[0]);
                    default -> throw new AssertionError(command);
                }
            } catch (RuntimeException e) {
                leftOut++;
            }
        }
        remembered.clear();
        slots[0] = null;
        slots[1] = null;
        return leftOut;
    }

    // ---- what there is

    private static int count(int[] ends, int today) {
        int n = 0;
        for (int end : ends) n += end > today ? 1 : 0;
        return n;
    }

    int about(int what) {
        return switch (what) {
            case 0 -> s.ranks.size();
            case 1 -> s.today;
            case 2 -> s.bookings.size();
            case 3 -> s.wishes.size();
            case 4, 5, 6, 7, 8 -> s.counts[what - 4];
            case 9 -> count(s.bans, s.today);
            case 10 -> count(s.lost, s.today);
            default -> throw argument();
        };
    }

    private boolean isPrisoner(int p) {
        return p >= 0 && p < s.ranks.size();
    }

    private boolean isVisitor(int v) {
        return v >= 0 && v <= 9;
    }

    private boolean areApart(int p, int q) {
        return p != q && s.apart.contains(Set.of(p, q));
    }

    private long heldBy(int p) {
        return s.log.stream().filter(h -> h.p == p).count();
    }

    private long visitsInWeek(int p, int week) {
        return s.log.stream().filter(h -> h.p == p && h.day / 7 == week).count()
                + s.bookings.stream().filter(b -> b.p == p && b.day / 7 == week).count();
    }

    int prisoner(int p, int what) {
        if (!isPrisoner(p)) throw index();
        int bits = 0;
        switch (what) {
            case 0: return s.ranks.get(p);
            case 1:
                for (int v = 0; v < 10; v++) bits += s.lists.contains(List.of(p, v)) ? 1 << v : 0;
                return bits;
            case 2: return s.lost[p];
            case 3: return (int) heldBy(p);
            case 4: return (int) visitsInWeek(p, s.today / 7);
            case 5: return (int) s.bookings.stream().filter(b -> b.p == p).count();
            case 6: return (int) s.wishes.stream().filter(w -> w.p == p).count();
            case 7:
                for (int q = 0; q < 8; q++) bits += areApart(p, q) ? 1 << q : 0;
                return bits;
            default: throw argument();
        }
    }

    int visitor(int v, int what) {
        if (!isVisitor(v)) throw index();
        int bits = 0;
        switch (what) {
            case 0: return s.strikes[v];
            case 1: return s.bans[v];
            case 2: return s.carrying.contains(v) ? 1 : 0;
            case 3: return (int) s.bookings.stream().filter(b -> b.v == v).count();
            case 4:
                for (int p = 0; p < 8; p++) bits += s.lists.contains(List.of(p, v)) ? 1 << p : 0;
                return bits;
            default: throw argument();
        }
    }

    private Booking existing(int k) {
        if (k < 0 || k >= s.bookings.size()) throw index();
        return s.bookings.get(k);
    }

    int booking(int k, int what) {
        Booking b = existing(k);
        return switch (what) {
            case 0 -> b.day;
            case 1 -> b.hour;
            case 2 -> b.booth;
            case 3 -> b.p;
            case 4 -> b.v;
            case 5 -> b.minutes;
            default -> throw argument();
        };
    }

    int line(int k, int i) {
        Booking b = existing(k);
        if (i < 0) throw argument();
        String line = b.day + "d" + b.hour + "h" + b.booth + " p" + b.p + " v" + b.v;
        if (b.minutes != 0) line += "+" + b.minutes;
        if (b.day < s.bans[b.v] || b.day < s.lost[b.p]) line += "!";
        return i < line.length() ? line.charAt(i) : -1;
    }

    private List<Wish> wishesInOrder() {
        List<Wish> order = new ArrayList<>(s.wishes);
        order.sort(Comparator.comparingLong(w -> heldBy(w.p)));
        return order;
    }

    int wishAt(int k) {
        if (k < 0) throw argument();
        if (k >= s.wishes.size()) return -1;
        Wish w = wishesInOrder().get(k);
        return 10 * w.p + w.v;
    }

    int setting(int what) {
        if (what < 0 || what > 5) throw argument();
        return s.settings[what];
    }

    // ---- actions

    private void remember() {
        remembered.addLast(s.copy());
        if (remembered.size() > 14) remembered.removeFirst();
    }

    int addPrisoner(int rank) {
        if (rank < 0 || rank > 3) throw argument();
        if (s.ranks.size() == 8) throw state();
        remember();
        s.ranks.add(rank);
        return s.ranks.size() - 1;
    }

    int promote(int p, int rank) {
        if (!isPrisoner(p)) throw index();
        if (rank < 0 || rank > 3) throw argument();
        remember();
        return s.ranks.set(p, rank);
    }

    int list(int p, int v, boolean is) {
        if (!isPrisoner(p) || !isVisitor(v)) throw index();
        remember();
        if (is) s.lists.add(List.of(p, v)); else s.lists.remove(List.of(p, v));
        return prisoner(p, 1);
    }

    int keepApart(int p, int q, boolean is) {
        if (!isPrisoner(p) || !isPrisoner(q)) throw index();
        if (p == q) throw state();
        remember();
        if (is) s.apart.add(Set.of(p, q)); else s.apart.remove(Set.of(p, q));
        return prisoner(p, 7);
    }

    private boolean boothTaken(int day, int hour, int booth) {
        return s.bookings.stream().anyMatch(b -> b.day == day && b.hour == hour && b.booth == booth);
    }

    private Optional<Integer> freeBooth(int day, int hour) {
        for (int booth = 0; booth < s.settings[0]; booth++) {
            if (!boothTaken(day, hour, booth)) return Optional.of(booth);
        }
        return Optional.empty();
    }

    private int reason(int p, int v, int day, int hour) {
        List<Booking> then = s.bookings.stream().filter(b -> b.day == day && b.hour == hour).toList();
        if (!s.lists.contains(List.of(p, v))) return 1;
        if (day < s.lost[p]) return 2;
        if (day < s.bans[v]) return 3;
        if (visitsInWeek(p, day / 7) >= s.ranks.get(p) + 1) return 4;
        if (then.stream().anyMatch(b -> b.p == p || b.v == v)) return 5;
        if (then.stream().anyMatch(b -> areApart(p, b.p))) return 6;
        if (freeBooth(day, hour).isEmpty()) return 7;
        return s.bookings.size() >= 24 ? 8 : 0;
    }

    private int add(int p, int v, int day, int hour) {
        int booth = freeBooth(day, hour).orElseThrow();
        s.bookings.add(new Booking(day, hour, booth, p, v, 0));
        s.bookings.sort(Comparator.comparing(Booking::day).thenComparing(Booking::hour).thenComparing(Booking::booth));
        return booth;
    }

    private void checkTime(int p, int v, int day, int hour) {
        if (!isPrisoner(p) || !isVisitor(v)) throw index();
        if (day < s.today || day > 9999 || hour < 0 || hour > 7) throw argument();
    }

    int book(int p, int v, int day, int hour) {
        checkTime(p, v, day, hour);
        if (reason(p, v, day, hour) != 0) throw state();
        remember();
        return add(p, v, day, hour);
    }

    int cancel(int k) {
        existing(k);
        remember();
        s.bookings.remove(k);
        return s.bookings.size();
    }

    int late(int k, int minutes) {
        Booking b = existing(k);
        if (minutes < 0 || minutes > 59) throw argument();
        remember();
        s.bookings.set(k, new Booking(b.day, b.hour, b.booth, b.p, b.v, minutes));
        return b.minutes;
    }

    int carry(int v, boolean is) {
        if (!isVisitor(v)) throw index();
        remember();
        if (is) s.carrying.add(v); else s.carrying.remove(v);
        return s.carrying.stream().mapToInt(c -> 1 << c).sum();
    }

    int punish(int p, int days) {
        if (!isPrisoner(p)) throw index();
        if (days < 0 || days > 99) throw argument();
        remember();
        int previous = s.lost[p];
        s.lost[p] = s.today + days;
        return previous;
    }

    int wish(int p, int v) {
        if (!isPrisoner(p) || !isVisitor(v)) throw index();
        if (!s.lists.contains(List.of(p, v)) || s.wishes.size() == 10) throw state();
        remember();
        s.wishes.add(new Wish(p, v));
        return s.wishes.size();
    }

    private int firstTime(int p, int v, int days) {
        for (int time = 8 * s.today; time < 8 * (s.today + days); time++) {
            if (reason(p, v, time / 8, time % 8) == 0) return time;
        }
        return -1;
    }

    private void goBy() {
        looked.clear();
        fates.clear();
        for (Wish w : wishesInOrder()) {
            int time = firstTime(w.p, w.v, 7);
            if (time >= 0) {
                add(w.p, w.v, time / 8, time % 8);
                s.wishes.remove(w);
            }
        }
        for (Booking b : List.copyOf(s.bookings)) {
            if (b.day == s.today) {
                s.bookings.remove(b);
                s.counts[4]++;
                int fate = fate(b);
                s.counts[fate]++;
                looked.add(b);
                fates.add(fate);
            }
        }
        s.today++;
    }

    private int fate(Booking b) {
        if (s.today < s.lost[b.p] || s.today < s.bans[b.v]) return 1;
        boolean searched = s.counts[4] % s.settings[1] == 0 || s.strikes[b.v] > 0;
        int banned = Math.max(s.bans[b.v], s.today + 1 + s.settings[2]);
        if (searched && s.carrying.remove(b.v)) {
            s.bans[b.v] = banned;
            s.lost[b.p] = Math.max(s.lost[b.p], s.today + 1 + s.settings[3]);
            return 2;
        }
        if (b.minutes + (searched ? s.settings[4] : 0) > s.settings[5]) {
            s.strikes[b.v] = (s.strikes[b.v] + 1) % 3;
            if (s.strikes[b.v] == 0) s.bans[b.v] = banned;
            return 3;
        }
        s.log.add(new Held(b.p, s.today));
        return 0;
    }

    int run(int n) {
        if (n < 1 || n > 30) throw argument();
        remember();
        int before = s.counts[0];
        for (int i = 0; i < n; i++) goBy();
        return s.counts[0] - before;
    }

    int set(int what, int v) {
        int[] least = {1, 1, 1, 1, 0, 0};
        int[] most = {4, 9, 99, 99, 59, 99};
        if (what < 0 || what > 5 || v < least[what] || v > most[what]) throw argument();
        remember();
        int previous = s.settings[what];
        s.settings[what] = v;
        return previous;
    }

    int undo() {
        if (remembered.isEmpty()) throw state();
        s = remembered.removeLast();
        return remembered.size();
    }

    // ---- what would be

    int whyNot(int p, int v, int day, int hour) {
        checkTime(p, v, day, hour);
        return reason(p, v, day, hour);
    }

    int firstTime(int p, int v) {
        if (!isPrisoner(p) || !isVisitor(v)) throw index();
        return firstTime(p, v, 60);
    }

    private Model twin() {
        Model twin = new Model();
        twin.s = s.copy();
        return twin;
    }

    int coming(int n, int what) {
        if (n < 1 || n > 60 || what < 0 || what > 4) throw argument();
        Model twin = twin();
        for (int i = 0; i < n; i++) twin.goBy();
        return what == 4 ? twin.s.wishes.size() : twin.s.counts[what] - s.counts[what];
    }

    int becomes(int k) {
        Booking b = existing(k);
        if (b.day > s.today + 59) throw state();
        Model twin = twin();
        while (!twin.looked.contains(b)) twin.goBy();
        return twin.fates.get(twin.looked.indexOf(b));
    }

    // ---- scripts, simulations

    int runScript(int n, long script) {
        if (n < 1 || n > 3 || script < 0 || Long.toString(script).length() > 5 * n) throw argument();
        String digits = String.format("%0" + 5 * n + "d", script);
        Model twin = twin();
        for (int i = 0; i < n; i++) {
            if (!twin.succeeds(digits.substring(5 * i, 5 * i + 5))) return i;
        }
        return -1;
    }

    private boolean succeeds(String group) {
        int a = group.charAt(1) - '0';
        int b = group.charAt(2) - '0';
        int c = group.charAt(3) - '0';
        int d = group.charAt(4) - '0';
        int nn = Integer.parseInt(group.substring(3));
        try {
            if (group.matches("1....")) book(a, b, s.today + c, d);
            else if (group.matches("2..00")) wish(a, b);
            else if (group.matches("3..0[01]")) list(a, b, d == 1);
            else if (group.matches("4.00[01]")) carry(a, d == 1);
            else if (group.matches("5.0..")) punish(a, nn);
            else if (group.matches("600..")) run(nn);
            else if (group.matches("7.0..")) return isPrisoner(a) && heldBy(a) >= nn;
            else if (group.matches("8.000")) return s.bans[a] <= s.today;
            else if (group.matches("900..")) return s.bookings.size() <= nn;
            else return false;
            return true;
        } catch (RuntimeException e) {
            return false;
        }
    }

    int simulate(long seed, int m) {
        if (m < 1 || m > 60) throw argument();
        Model twin = twin();
        long x = seed;
        for (int i = 0; i < m; i++) {
            x = x * 6364136223846793005L + 1442695040888963407L;
            twin.turn((int) (x >>> 33));
        }
        return 100 * (twin.s.log.size() - s.log.size()) + twin.s.bookings.size();
    }

    private void turn(int r) {
        int p = r / 8 % 8;
        int v = r / 64 % 10;
        try {
            switch (r % 8) {
                case 0, 1 -> book(p, v, s.today + r / 1024 % 5, r / 8192 % 8);
                case 2 -> wish(p, v);
                case 3 -> list(p, v, true);
                case 4 -> carry(v, true);
                case 5 -> late(r / 8 % 24, r / 1024 % 40);
                default -> run(1);
            }
        } catch (RuntimeException e) {
            // left out
        }
    }

    // ---- save slots

    int save(int slot) {
        if (slot < 0 || slot > 1) throw index();
        slots[slot] = s.copy();
        return s.today;
    }

    int restore(int slot) {
        if (slot < 0 || slot > 1) throw index();
        if (slots[slot] == null) throw state();
        s = slots[slot].copy();
        remembered.clear();
        return s.today;
    }
}
