/**
 * Visiting times in a prison: who may come when, why a booking is not possible, what the days bring, who waits.
 *
 * <p>The outer class is the face: it tests arguments and throws. The classes inside hold the state and its rules and
 * never throw; where an action of theirs is not possible, they answer one of the negative numbers below.
 */
public final class VisitHours {
    /** There is no such result. */
    public static final int NONE = -1;

    private static final int NO_SUCH = -1;
    private static final int BAD_ARGUMENT = -2;
    private static final int BAD_STATE = -3;

    private static final int RUN_MOST = 30;
    private static final int AHEAD_MOST = 60;
    private static final int SCRIPT_MOST = 3;
    private static final int TURNS_MOST = 60;

    private final Text text = new Text();
    private final Prison present = new Prison();
    private final History history = new History();
    private final Slot firstSlot = new Slot();
    private final Slot secondSlot = new Slot();
    // What would be is tried out here, so that no call needs a new prison.
    private final Prison copy = new Prison();
    // Stays without prisoners: what a load begins with.
    private final Prison empty = new Prison();

    /** Creates a prison without prisoners. */
    public VisitHours() {
    }

    // ---- text

    /** Appends a character to the text buffer, and returns the new length of the text. */
    public int append(int c) throws IllegalArgumentException, IllegalStateException {
        if (!isBetween(c, 0, 255)) {
            throw new IllegalArgumentException("a character is 0 to 255");
        }
        if (text.isFull()) {
            throw new IllegalStateException("the text is full");
        }
        return text.add(c);
    }

    /** Empties the text buffer, and returns the previous length of the text. */
    public int clearText() {
        return text.drop();
    }

    /** Returns the error position of the text; NONE if it is a prison. */
    public int errorPosition() {
        return text.errorIndex();
    }

    /** Begins anew with the commands of the text, and returns how many of them are left out. */
    public int load() throws IllegalStateException {
        if (text.errorIndex() != NONE) {
            throw new IllegalStateException("the text is not a prison");
        }
        present.copyFrom(empty);
        history.forget();
        firstSlot.filled = false;
        secondSlot.filled = false;
        int leftOut = 0;
        text.startReading();
        for (int left = Text.MOST; left > 0 && text.readCommand(); left--) {
            if (text.doCommand(present) < 0) {
                leftOut++;
            }
            text.readSign(';');
        }
        return leftOut;
    }

    // ---- what there is

    /** Returns a number of the whole prison. */
    public int about(int what) throws IllegalArgumentException {
        if (!isBetween(what, 0, 10)) {
            throw new IllegalArgumentException("what is 0 to 10");
        }
        return present.numberOfAll(what);
    }

    /** Returns a number of a prisoner. */
    public int prisoner(int p, int what) throws IndexOutOfBoundsException, IllegalArgumentException {
        if (!present.hasPrisoner(p)) {
            throw new IndexOutOfBoundsException("no such prisoner");
        }
        if (!isBetween(what, 0, 7)) {
            throw new IllegalArgumentException("what is 0 to 7");
        }
        return present.numberOfPrisoner(p, what);
    }

    /** Returns a number of a visitor. */
    public int visitor(int v, int what) throws IndexOutOfBoundsException, IllegalArgumentException {
        if (!Prison.hasVisitor(v)) {
            throw new IndexOutOfBoundsException("no such visitor");
        }
        if (!isBetween(what, 0, 4)) {
            throw new IllegalArgumentException("what is 0 to 4");
        }
        return present.numberOfVisitor(v, what);
    }

    /** Returns a number of a booking. */
    public int booking(int k, int what) throws IndexOutOfBoundsException, IllegalArgumentException {
        if (!present.bookings.has(k)) {
            throw new IndexOutOfBoundsException("no such booking");
        }
        if (!isBetween(what, 0, Bookings.FIELDS - 1)) {
            throw new IllegalArgumentException("what is 0 to 5");
        }
        return present.bookings.at(k, what);
    }

    /** Returns a character of the line of a booking; NONE if the line is not so long. */
    public int line(int k, int i) throws IndexOutOfBoundsException, IllegalArgumentException {
        if (!present.bookings.has(k)) {
            throw new IndexOutOfBoundsException("no such booking");
        }
        if (i < 0) {
            throw new IllegalArgumentException("the index is negative");
        }
        StringBuilder line = present.lineOf(k);
        return i < line.length() ? line.charAt(i) : NONE;
    }

    /** Returns 10 * (prisoner) + (visitor) of a wish; NONE if there are not so many. */
    public int wishAt(int k) throws IllegalArgumentException {
        if (k < 0) {
            throw new IllegalArgumentException("the number of the wish is negative");
        }
        return present.wishes.at(present.wishes.inTurn(k, present.held));
    }

    /** Returns a setting. */
    public int setting(int what) throws IllegalArgumentException {
        if (!Prison.hasSetting(what)) {
            throw new IllegalArgumentException("no such setting");
        }
        return present.settings[what];
    }

    // ---- actions

    /** Adds a prisoner, and returns its number. */
    public int addPrisoner(int rank) throws IllegalArgumentException, IllegalStateException {
        history.prepare(present);
        return settle(present.tryAdd(rank));
    }

    /** Changes the rank of a prisoner, and returns the previous one. */
    public int promote(int p, int rank) throws IndexOutOfBoundsException, IllegalArgumentException {
        history.prepare(present);
        return settle(present.tryPromote(p, rank));
    }

    /** Changes whether a visitor is on the list of a prisoner, and returns the list. */
    public int list(int p, int v, boolean is) throws IndexOutOfBoundsException {
        history.prepare(present);
        return settle(present.tryList(p, v, is));
    }

    /** Changes whether two prisoners are apart, and returns those who are apart from the first. */
    public int keepApart(int p, int q, boolean is) throws IndexOutOfBoundsException, IllegalStateException {
        history.prepare(present);
        return settle(present.tryKeepApart(p, q, is));
    }

    /** Makes a booking, and returns its booth. */
    public int book(int p, int v, int day, int hour)
            throws IndexOutOfBoundsException, IllegalArgumentException, IllegalStateException {
        history.prepare(present);
        return settle(present.tryBook(p, v, day, hour));
    }

    /** Cancels a booking, and returns how many there are then. */
    public int cancel(int k) throws IndexOutOfBoundsException {
        history.prepare(present);
        return settle(present.tryCancel(k));
    }

    /** Tells that the visitor of a booking will be late, and returns the previous minutes. */
    public int late(int k, int minutes) throws IndexOutOfBoundsException, IllegalArgumentException {
        history.prepare(present);
        return settle(present.tryLate(k, minutes));
    }

    /** Changes whether a visitor carries something, and returns the visitors who do. */
    public int carry(int v, boolean is) throws IndexOutOfBoundsException {
        history.prepare(present);
        return settle(present.tryCarry(v, is));
    }

    /** Takes privileges away, and returns the previous day up to which they were lost. */
    public int punish(int p, int days) throws IndexOutOfBoundsException, IllegalArgumentException {
        history.prepare(present);
        return settle(present.tryPunish(p, days));
    }

    /** Adds a wish, and returns how many wait then. */
    public int wish(int p, int v) throws IndexOutOfBoundsException, IllegalStateException {
        history.prepare(present);
        return settle(present.tryWish(p, v));
    }

    /** Lets days go by, and returns how many visits are held in them. */
    public int run(int n) throws IllegalArgumentException {
        if (!isBetween(n, 1, RUN_MOST)) {
            throw new IllegalArgumentException("the days are 1 to 30");
        }
        history.prepare(present);
        return settle(present.letDaysPass(n));
    }

    /** Changes a setting, and returns the previous value. */
    public int set(int what, int v) throws IllegalArgumentException {
        history.prepare(present);
        return settle(present.trySet(what, v));
    }

    /** Takes back the last action that is remembered, and returns how many states are still remembered. */
    public int undo() throws IllegalStateException {
        if (history.count == 0) {
            throw new IllegalStateException("nothing is remembered");
        }
        history.takeBack(present);
        return history.count;
    }

    // ---- what would be

    /** Returns 0 if a booking is possible, otherwise the first of the reasons 1 to 8 that applies. */
    public int whyNot(int p, int v, int day, int hour) throws IndexOutOfBoundsException, IllegalArgumentException {
        if (!present.hasPair(p, v)) {
            throw new IndexOutOfBoundsException("no such prisoner or visitor");
        }
        if (!present.isTime(day, hour)) {
            throw new IllegalArgumentException("no such day or hour");
        }
        return present.reasonAgainst(p, v, day, hour);
    }

    /** Returns 8 * (day) + (hour) of the first time for a visit in 60 days; NONE if there is none. */
    public int firstTime(int p, int v) throws IndexOutOfBoundsException {
        if (!present.hasPair(p, v)) {
            throw new IndexOutOfBoundsException("no such prisoner or visitor");
        }
        return present.earliest(p, v, AHEAD_MOST);
    }

    /** Tells what days to come bring. */
    public int coming(int n, int what) throws IllegalArgumentException {
        if (!isBetween(n, 1, AHEAD_MOST)) {
            throw new IllegalArgumentException("the days are 1 to 60");
        }
        if (!isBetween(what, 0, 4)) {
            throw new IllegalArgumentException("what is 0 to 4");
        }
        copy.copyFrom(present);
        copy.letDaysPass(n);
        return what == 4 ? copy.wishes.count : copy.counts[what] - present.counts[what];
    }

    /** Tells what becomes of a booking: 0 held, 1 refused, 2 something found, 3 too late. */
    public int becomes(int k) throws IndexOutOfBoundsException, IllegalStateException {
        if (!present.bookings.has(k)) {
            throw new IndexOutOfBoundsException("no such booking");
        }
        if (present.bookings.at(k, Bookings.DAY) - present.today >= AHEAD_MOST) {
            throw new IllegalStateException("the day is too far ahead");
        }
        copy.copyFrom(present);
        return copy.fateOf(k);
    }

    // ---- scripts, simulations

    /** Runs a script on a copy of the state, and returns the index of the first command that fails, or NONE. */
    public int runScript(int n, long script) throws IllegalArgumentException {
        if (!isBetween(n, 1, SCRIPT_MOST)) {
            throw new IllegalArgumentException("the commands are 1 to 3");
        }
        if (script < 0 || Script.withoutLast(script, n) != 0) {
            throw new IllegalArgumentException("the script is negative or too long");
        }
        copy.copyFrom(present);
        for (int i = 0; i < n; i++) {
            int group = (int) (Script.withoutLast(script, n - 1 - i) % Script.GROUP);
            if (!Script.succeeds(copy, group)) {
                return i;
            }
        }
        return NONE;
    }

    /** Simulates turns on a copy of the state, and returns 100 * (visits held in them) + (bookings at the end). */
    public int simulate(long seed, int m) throws IllegalArgumentException {
        if (!isBetween(m, 1, TURNS_MOST)) {
            throw new IllegalArgumentException("the turns are 1 to 60");
        }
        copy.copyFrom(present);
        long x = seed;
        for (int turn = 0; turn < m; turn++) {
            x = x * 6364136223846793005L + 1442695040888963407L;
            Script.takeTurn(copy, (int) (x >>> 33));
        }
        return 100 * (copy.counts[Prison.HELD] - present.counts[Prison.HELD]) + copy.bookings.count;
    }

    // ---- save slots

    /** Stores the present state in a save slot, and returns today. */
    public int save(int slot) throws IndexOutOfBoundsException {
        if (!isBetween(slot, 0, 1)) {
            throw new IndexOutOfBoundsException("no such save slot");
        }
        Slot kept = slotOf(slot);
        kept.prison.copyFrom(present);
        kept.filled = true;
        return present.today;
    }

    /** Replaces the state by the one in a save slot, forgets all remembered states, and returns today then. */
    public int restore(int slot) throws IndexOutOfBoundsException, IllegalStateException {
        if (!isBetween(slot, 0, 1)) {
            throw new IndexOutOfBoundsException("no such save slot");
        }
        Slot kept = slotOf(slot);
        if (!kept.filled) {
            throw new IllegalStateException("nothing is saved in it");
        }
        present.copyFrom(kept.prison);
        history.forget();
        return present.today;
    }

    private Slot slotOf(int slot) {
        return slot == 0 ? firstSlot : secondSlot;
    }

    /** Ends an action: throws what its answer stands for, or keeps the state that was there before it. */
    private int settle(int answer) {
        if (answer == NO_SUCH) {
            throw new IndexOutOfBoundsException("no such prisoner, visitor or booking");
        }
        if (answer == BAD_ARGUMENT) {
            throw new IllegalArgumentException("an argument is out of its range");
        }
        if (answer == BAD_STATE) {
            throw new IllegalStateException("not possible now");
        }
        history.keepPrepared();
        return answer;
    }

    private static boolean isBetween(int number, int least, int most) {
        return number >= least && number <= most;
    }

    private static int withBit(int bits, int i, boolean is) {
        return is ? bits | 1 << i : bits & ~(1 << i);
    }

    private static boolean hasBit(int bits, int i) {
        return (bits >> i & 1) == 1;
    }

    /** One state of the prison, and the rules by which it changes. */
    private static final class Prison {
        static final int PRISONERS_MOST = 8;
        static final int VISITORS = 10;
        static final int HOURS = 8;
        static final int WEEK = 7;
        static final int DAY_MOST = 9999;
        static final int RANK_MOST = 3;
        static final int WISH_DAYS = 7;
        static final int STRIKES_MOST = 3;

        // What becomes of a booking; counts has how often each of these was, and then the visitors who were counted.
        static final int HELD = 0;
        static final int REFUSED = 1;
        static final int FOUND = 2;
        static final int TOO_LATE = 3;
        static final int COUNTED = 4;

        static final int BOOTHS = 0;
        static final int SEARCH_EACH = 1;
        static final int BAN_DAYS = 2;
        static final int LOSS_DAYS = 3;
        static final int SEARCH_MINUTES = 4;
        static final int LATE_MINUTES = 5;
        private static final int[] SETTING_LEAST = {1, 1, 1, 1, 0, 0};
        private static final int[] SETTING_MOST = {4, 9, 99, 99, 59, 99};
        private static final int[] SETTING_FIRST = {2, 3, 14, 7, 10, 15};

        int today;
        int prisoners;
        final int[] ranks = new int[PRISONERS_MOST];
        final int[] lists = new int[PRISONERS_MOST];
        final int[] lostUpTo = new int[PRISONERS_MOST];
        final int[] held = new int[PRISONERS_MOST];
        final int[] heldThisWeek = new int[PRISONERS_MOST];
        final int[] apart = new int[PRISONERS_MOST];
        final int[] strikes = new int[VISITORS];
        final int[] banUpTo = new int[VISITORS];
        int carrying;
        final Bookings bookings = new Bookings();
        final Wishes wishes = new Wishes();
        final int[] counts = new int[COUNTED + 1];
        final int[] settings = SETTING_FIRST.clone();

        void copyFrom(Prison other) {
            today = other.today;
            prisoners = other.prisoners;
            System.arraycopy(other.ranks, 0, ranks, 0, PRISONERS_MOST);
            System.arraycopy(other.lists, 0, lists, 0, PRISONERS_MOST);
            System.arraycopy(other.lostUpTo, 0, lostUpTo, 0, PRISONERS_MOST);
            System.arraycopy(other.held, 0, held, 0, PRISONERS_MOST);
            System.arraycopy(other.heldThisWeek, 0, heldThisWeek, 0, PRISONERS_MOST);
            System.arraycopy(other.apart, 0, apart, 0, PRISONERS_MOST);
            System.arraycopy(other.strikes, 0, strikes, 0, VISITORS);
            System.arraycopy(other.banUpTo, 0, banUpTo, 0, VISITORS);
            carrying = other.carrying;
            bookings.copyFrom(other.bookings);
            wishes.copyFrom(other.wishes);
            System.arraycopy(other.counts, 0, counts, 0, counts.length);
            System.arraycopy(other.settings, 0, settings, 0, settings.length);
        }

        boolean hasPrisoner(int p) {
            return p >= 0 && p < prisoners && p < PRISONERS_MOST;
        }

        static boolean hasVisitor(int v) {
            return v >= 0 && v < VISITORS;
        }

        boolean hasPair(int p, int v) {
            return hasPrisoner(p) && hasVisitor(v);
        }

        static boolean hasSetting(int what) {
            return what >= 0 && what < SETTING_FIRST.length;
        }

        boolean isTime(int day, int hour) {
            return day >= today && day <= DAY_MOST && hour >= 0 && hour < HOURS;
        }

        static int weekOf(int day) {
            return day / WEEK;
        }

        // ---- what there is

        int numberOfAll(int what) {
            switch (what) {
                case 0: return prisoners;
                case 1: return today;
                case 2: return bookings.count;
                case 3: return wishes.count;
                case 4: return counts[HELD];
                case 5: return counts[REFUSED];
                case 6: return counts[FOUND];
                case 7: return counts[TOO_LATE];
                case 8: return counts[COUNTED];
                case 9: return aheadOfToday(banUpTo);
                default: return aheadOfToday(lostUpTo);
            }
        }

        private int aheadOfToday(int[] ends) {
            int ahead = 0;
            for (int end : ends) {
                if (today < end) {
                    ahead++;
                }
            }
            return ahead;
        }

        int numberOfPrisoner(int p, int what) {
            if (!hasPrisoner(p)) {
                return NONE;
            }
            switch (what) {
                case 0: return ranks[p];
                case 1: return lists[p];
                case 2: return lostUpTo[p];
                case 3: return held[p];
                case 4: return bookings.countInWeek(p, weekOf(today)) + heldThisWeek[p];
                case 5: return bookings.countOf(Bookings.PRISONER, p);
                case 6: return wishes.countOf(p);
                default: return apart[p];
            }
        }

        int numberOfVisitor(int v, int what) {
            if (!hasVisitor(v)) {
                return NONE;
            }
            switch (what) {
                case 0: return strikes[v];
                case 1: return banUpTo[v];
                case 2: return hasBit(carrying, v) ? 1 : 0;
                case 3: return bookings.countOf(Bookings.VISITOR, v);
                default: return prisonersWhoList(v);
            }
        }

        private int prisonersWhoList(int v) {
            int bits = 0;
            for (int p = 0; p < PRISONERS_MOST; p++) {
                bits = withBit(bits, p, hasBit(lists[p], v));
            }
            return bits;
        }

        StringBuilder lineOf(int k) {
            StringBuilder line = new StringBuilder();
            int day = bookings.at(k, Bookings.DAY);
            int p = bookings.at(k, Bookings.PRISONER);
            int v = bookings.at(k, Bookings.VISITOR);
            int minutes = bookings.at(k, Bookings.MINUTES);
            line.append(day).append('d');
            line.append(bookings.at(k, Bookings.HOUR)).append('h');
            line.append(bookings.at(k, Bookings.BOOTH));
            line.append(" p").append(p).append(" v").append(v);
            if (minutes > 0) {
                line.append('+').append(minutes);
            }
            if (isLost(p, day) || isBanned(v, day)) {
                line.append('!');
            }
            return line;
        }

        boolean isLost(int p, int day) {
            return hasPrisoner(p) && day < lostUpTo[p];
        }

        boolean isBanned(int v, int day) {
            return hasVisitor(v) && day < banUpTo[v];
        }

        // ---- which booking is possible

        int reasonAgainst(int p, int v, int day, int hour) {
            int reason = reasonOnDay(p, v, day);
            return reason != 0 ? reason : reasonInHour(p, v, day, hour);
        }

        private int reasonOnDay(int p, int v, int day) {
            if (!hasPrisoner(p) || !hasVisitor(v) || !hasBit(lists[p], v)) {
                return 1;
            }
            if (day < lostUpTo[p]) {
                return 2;
            }
            if (day < banUpTo[v]) {
                return 3;
            }
            // Weeks that are gone are never asked for, and in later ones no visit is held yet.
            int visits = weekOf(day) == weekOf(today) ? heldThisWeek[p] : 0;
            return visits + bookings.countInWeek(p, weekOf(day)) > ranks[p] ? 4 : 0;
        }

        private int reasonInHour(int p, int v, int day, int hour) {
            int there = bookings.valuesInHour(Bookings.PRISONER, day, hour);
            int visiting = bookings.valuesInHour(Bookings.VISITOR, day, hour);
            if (hasBit(there, p) || hasBit(visiting, v)) {
                return 5;
            }
            if (hasPrisoner(p) && (there & apart[p]) != 0) {
                return 6;
            }
            int booths = (1 << settings[BOOTHS]) - 1;
            if ((bookings.valuesInHour(Bookings.BOOTH, day, hour) & booths) == booths) {
                return 7;
            }
            return bookings.isFull() ? 8 : 0;
        }

        /** The first time, from today on, for which a booking is possible, as 8 * (day) + (hour). */
        int earliest(int p, int v, int days) {
            // Else each hour of each day would be looked at for the last of the reasons.
            if (bookings.isFull()) {
                return NONE;
            }
            for (int day = today; day < today + days; day++) {
                boolean isOpen = reasonOnDay(p, v, day) == 0;
                for (int hour = 0; isOpen && hour < HOURS; hour++) {
                    if (reasonInHour(p, v, day, hour) == 0) {
                        return HOURS * day + hour;
                    }
                }
            }
            return NONE;
        }

        // ---- actions; each answers a number of 0 or more, or changes nothing and answers which exception is due

        int tryAdd(int rank) {
            if (!isBetween(rank, 0, RANK_MOST)) {
                return BAD_ARGUMENT;
            }
            if (prisoners < 0 || prisoners >= PRISONERS_MOST) {
                return BAD_STATE;
            }
            ranks[prisoners] = rank;
            prisoners++;
            return prisoners - 1;
        }

        int tryPromote(int p, int rank) {
            if (!hasPrisoner(p)) {
                return NO_SUCH;
            }
            if (!isBetween(rank, 0, RANK_MOST)) {
                return BAD_ARGUMENT;
            }
            int previous = ranks[p];
            ranks[p] = rank;
            return previous;
        }

        int tryList(int p, int v, boolean is) {
            if (!hasPair(p, v)) {
                return NO_SUCH;
            }
            lists[p] = withBit(lists[p], v, is);
            return lists[p];
        }

        int tryKeepApart(int p, int q, boolean is) {
            if (!hasPrisoner(p) || !hasPrisoner(q)) {
                return NO_SUCH;
            }
            if (p == q) {
                return BAD_STATE;
            }
            apart[p] = withBit(apart[p], q, is);
            apart[q] = withBit(apart[q], p, is);
            return apart[p];
        }

        int tryBook(int p, int v, int day, int hour) {
            if (!hasPair(p, v)) {
                return NO_SUCH;
            }
            if (!isTime(day, hour)) {
                return BAD_ARGUMENT;
            }
            if (reasonAgainst(p, v, day, hour) != 0) {
                return BAD_STATE;
            }
            return bookings.add(p, v, day, hour);
        }

        int tryCancel(int k) {
            if (!bookings.has(k)) {
                return NO_SUCH;
            }
            bookings.remove(k);
            return bookings.count;
        }

        int tryLate(int k, int minutes) {
            if (!bookings.has(k)) {
                return NO_SUCH;
            }
            if (!isBetween(minutes, 0, 59)) {
                return BAD_ARGUMENT;
            }
            int previous = bookings.at(k, Bookings.MINUTES);
            bookings.putMinutes(k, minutes);
            return previous;
        }

        int tryCarry(int v, boolean is) {
            if (!hasVisitor(v)) {
                return NO_SUCH;
            }
            carrying = withBit(carrying, v, is);
            return carrying;
        }

        int tryPunish(int p, int days) {
            if (!hasPrisoner(p)) {
                return NO_SUCH;
            }
            if (!isBetween(days, 0, 99)) {
                return BAD_ARGUMENT;
            }
            int previous = lostUpTo[p];
            lostUpTo[p] = today + days;
            return previous;
        }

        int tryWish(int p, int v) {
            if (!hasPair(p, v)) {
                return NO_SUCH;
            }
            if (!hasBit(lists[p], v) || wishes.isFull()) {
                return BAD_STATE;
            }
            wishes.add(p, v);
            return wishes.count;
        }

        int trySet(int what, int value) {
            if (!hasSetting(what) || !isBetween(value, SETTING_LEAST[what], SETTING_MOST[what])) {
                return BAD_ARGUMENT;
            }
            int previous = settings[what];
            settings[what] = value;
            return previous;
        }

        // ---- days that go by

        /** Lets days go by, and answers how many visits are held in them. */
        int letDaysPass(int days) {
            int before = counts[HELD];
            for (int day = 0; day < days; day++) {
                grantWishes();
                for (int left = bookings.count; left > 0 && bookings.at(0, Bookings.DAY) == today; left--) {
                    lookAtFirst();
                }
                beginNextDay();
            }
            return counts[HELD] - before;
        }

        /** What becomes of a booking; lets the time go by up to it. */
        int fateOf(int k) {
            int day = bookings.at(k, Bookings.DAY);
            int hour = bookings.at(k, Bookings.HOUR);
            int booth = bookings.at(k, Bookings.BOOTH);
            letDaysPass(day - today);
            grantWishes();
            for (int left = bookings.count; left > 0; left--) {
                // In one hour no two bookings have the same booth, so this tells which one it is.
                boolean isThis = bookings.at(0, Bookings.HOUR) == hour && bookings.at(0, Bookings.BOOTH) == booth;
                int fate = lookAtFirst();
                if (isThis) {
                    return fate;
                }
            }
            return NONE;
        }

        private void grantWishes() {
            int turn = 0;
            for (int left = wishes.count; left > 0; left--) {
                int i = wishes.inTurn(turn, held);
                int p = wishes.prisonerOf(i);
                int v = wishes.visitorOf(i);
                int time = earliest(p, v, WISH_DAYS);
                if (time == NONE) {
                    turn++;
                } else {
                    // The others keep their order, so the next one has the same turn then.
                    bookings.add(p, v, time / HOURS, time % HOURS);
                    wishes.remove(i);
                }
            }
        }

        /** Looks at the first booking of today, which is gone then, and answers what becomes of it. */
        private int lookAtFirst() {
            int p = bookings.at(0, Bookings.PRISONER);
            int v = bookings.at(0, Bookings.VISITOR);
            int minutes = bookings.at(0, Bookings.MINUTES);
            bookings.remove(0);
            if (!hasPair(p, v)) {
                return NONE;
            }
            counts[COUNTED]++;
            int fate = judge(p, v, minutes);
            if (fate >= HELD && fate < COUNTED) {
                counts[fate]++;
            }
            if (fate == HELD) {
                held[p]++;
                heldThisWeek[p]++;
            }
            return fate;
        }

        private int judge(int p, int v, int minutes) {
            if (isLost(p, today) || isBanned(v, today)) {
                return REFUSED;
            }
            boolean searched = isSearched(v);
            if (searched && hasBit(carrying, v)) {
                carrying = withBit(carrying, v, false);
                ban(v);
                takePrivileges(p);
                return FOUND;
            }
            if (minutes + (searched ? settings[SEARCH_MINUTES] : 0) > settings[LATE_MINUTES]) {
                if (getsThirdStrike(v)) {
                    ban(v);
                }
                return TOO_LATE;
            }
            return HELD;
        }

        private boolean isSearched(int v) {
            int each = settings[SEARCH_EACH];
            boolean isTurn = each > 0 && counts[COUNTED] % each == 0;
            return isTurn || hasVisitor(v) && strikes[v] > 0;
        }

        /** Gives one strike more, and answers whether it was the third, so that none are left. */
        private boolean getsThirdStrike(int v) {
            if (!hasVisitor(v)) {
                return false;
            }
            strikes[v]++;
            boolean isThird = strikes[v] >= STRIKES_MOST;
            if (isThird) {
                strikes[v] = 0;
            }
            return isThird;
        }

        private void ban(int v) {
            int end = today + 1 + settings[BAN_DAYS];
            if (hasVisitor(v) && end > banUpTo[v]) {
                banUpTo[v] = end;
            }
        }

        private void takePrivileges(int p) {
            int end = today + 1 + settings[LOSS_DAYS];
            if (hasPrisoner(p) && end > lostUpTo[p]) {
                lostUpTo[p] = end;
            }
        }

        private void beginNextDay() {
            int week = weekOf(today);
            today++;
            if (weekOf(today) != week) {
                for (int p = 0; p < PRISONERS_MOST; p++) {
                    heldThisWeek[p] = 0;
                }
            }
        }
    }

    /** The bookings, in the order of their days, hours and booths. */
    private static final class Bookings {
        static final int MOST = 24;
        static final int DAY = 0;
        static final int HOUR = 1;
        static final int BOOTH = 2;
        static final int PRISONER = 3;
        static final int VISITOR = 4;
        static final int MINUTES = 5;
        static final int FIELDS = 6;

        int count;
        // One booking behind the other, each with its fields.
        private final int[] cells = new int[FIELDS * MOST];

        void copyFrom(Bookings other) {
            count = other.count;
            System.arraycopy(other.cells, 0, cells, 0, cells.length);
        }

        boolean has(int k) {
            return k >= 0 && k < count && k < MOST;
        }

        boolean isFull() {
            return count >= MOST;
        }

        int at(int k, int field) {
            return has(k) && field >= 0 && field < FIELDS ? cells[FIELDS * k + field] : NONE;
        }

        void putMinutes(int k, int minutes) {
            if (has(k)) {
                cells[FIELDS * k + MINUTES] = minutes;
            }
        }

        /** Adds a booking with the lowest booth that is free in the hour, and answers this booth. */
        int add(int p, int v, int day, int hour) {
            if (count < 0 || count >= MOST) {
                return BAD_STATE;
            }
            int taken = valuesInHour(BOOTH, day, hour);
            int booth = 0;
            while (booth < MOST && hasBit(taken, booth)) {
                booth++;
            }
            int from = FIELDS * placeFor(day, hour, booth);
            System.arraycopy(cells, from, cells, from + FIELDS, FIELDS * count - from);
            count++;
            cells[from + DAY] = day;
            cells[from + HOUR] = hour;
            cells[from + BOOTH] = booth;
            cells[from + PRISONER] = p;
            cells[from + VISITOR] = v;
            cells[from + MINUTES] = 0;
            return booth;
        }

        private int placeFor(int day, int hour, int booth) {
            int k = 0;
            while (k < count && isAhead(k, day, hour, booth)) {
                k++;
            }
            return k;
        }

        private boolean isAhead(int k, int day, int hour, int booth) {
            if (k < 0 || k >= MOST) {
                return false;
            }
            int from = FIELDS * k;
            if (cells[from + DAY] != day) {
                return cells[from + DAY] < day;
            }
            if (cells[from + HOUR] != hour) {
                return cells[from + HOUR] < hour;
            }
            return cells[from + BOOTH] < booth;
        }

        void remove(int k) {
            if (has(k) && count <= MOST) {
                int next = FIELDS * (k + 1);
                System.arraycopy(cells, next, cells, next - FIELDS, FIELDS * count - next);
                count--;
            }
        }

        int countOf(int field, int value) {
            int found = 0;
            for (int k = 0; k < count; k++) {
                if (at(k, field) == value) {
                    found++;
                }
            }
            return found;
        }

        int countInWeek(int p, int week) {
            int found = 0;
            for (int from = 0; from < FIELDS * count && from + FIELDS <= cells.length; from += FIELDS) {
                if (cells[from + PRISONER] == p && cells[from + DAY] / Prison.WEEK == week) {
                    found++;
                }
            }
            return found;
        }

        /** The values that a field has in the bookings of an hour, bit i set for the value i. */
        int valuesInHour(int field, int day, int hour) {
            if (field < 0 || field >= FIELDS) {
                return 0;
            }
            int bits = 0;
            for (int from = 0; from < FIELDS * count && from + FIELDS <= cells.length; from += FIELDS) {
                if (cells[from + DAY] == day && cells[from + HOUR] == hour) {
                    bits |= 1 << cells[from + field];
                }
            }
            return bits;
        }
    }

    /** The wishes that wait, the earliest first. */
    private static final class Wishes {
        static final int MOST = 10;

        int count;
        // 10 * (prisoner) + (visitor).
        private final int[] pairs = new int[MOST];

        void copyFrom(Wishes other) {
            count = other.count;
            System.arraycopy(other.pairs, 0, pairs, 0, MOST);
        }

        boolean isFull() {
            return count >= MOST;
        }

        int at(int i) {
            return i >= 0 && i < count && i < MOST ? pairs[i] : NONE;
        }

        int prisonerOf(int i) {
            return at(i) < 0 ? NONE : at(i) / 10;
        }

        int visitorOf(int i) {
            return at(i) < 0 ? NONE : at(i) % 10;
        }

        void add(int p, int v) {
            if (count >= 0 && count < MOST) {
                pairs[count] = 10 * p + v;
                count++;
            }
        }

        void remove(int i) {
            if (i >= 0 && i < count && count <= MOST) {
                System.arraycopy(pairs, i + 1, pairs, i, count - i - 1);
                count--;
            }
        }

        int countOf(int p) {
            int found = 0;
            for (int i = 0; i < count; i++) {
                if (prisonerOf(i) == p) {
                    found++;
                }
            }
            return found;
        }

        /** Which wish is looked at when this many were looked at; NONE if there are not so many. */
        int inTurn(int turn, int[] held) {
            for (int i = 0; i < count; i++) {
                if (turnOf(i, held) == turn) {
                    return i;
                }
            }
            return NONE;
        }

        private int turnOf(int i, int[] held) {
            int own = heldBy(i, held);
            int turn = 0;
            for (int other = 0; other < count; other++) {
                int theirs = heldBy(other, held);
                if (theirs < own || theirs == own && other < i) {
                    turn++;
                }
            }
            return turn;
        }

        private int heldBy(int i, int[] held) {
            int p = i >= 0 && i < MOST ? pairs[i] / 10 : NONE;
            return p >= 0 && p < held.length ? held[p] : 0;
        }
    }

    /** The text buffer, and reading it as the commands of a prison. */
    private static final class Text {
        static final int MOST = 120;

        private static final int MAN = 0;
        private static final int MAY = 1;
        private static final int BOOK = 2;
        private static final int WISH = 3;
        private static final int HAS = 4;
        private static final int RUN = 5;
        private static final int WORDS = 6;

        private int length;
        private final char[] signs = new char[MOST];
        // Where reading stands, and the last command that was read.
        private int at;
        private int word;
        private final int[] numbers = new int[4];

        boolean isFull() {
            return length >= MOST;
        }

        int add(int c) {
            if (length >= 0 && length < MOST) {
                signs[length] = (char) c;
                length++;
            }
            return length;
        }

        int drop() {
            int previous = length;
            length = 0;
            return previous;
        }

        int errorIndex() {
            startReading();
            for (int left = MOST; left > 0; left--) {
                if (!readCommand()) {
                    return at;
                }
                if (at >= length) {
                    return NONE;
                }
                if (!readSign(';')) {
                    return at;
                }
            }
            return at;
        }

        void startReading() {
            at = 0;
        }

        /** Reads a command, and answers whether there is one; if not, reading stands at the error. */
        boolean readCommand() {
            if (!readWord()) {
                return false;
            }
            String kinds = kindsOf(word);
            for (int i = 0; i < kinds.length(); i++) {
                if (!readSign(',') || !readNumber(i, kinds.charAt(i))) {
                    return false;
                }
            }
            return true;
        }

        boolean readSign(char sign) {
            if (signAt(at) != sign) {
                return false;
            }
            at++;
            return true;
        }

        private int signAt(int i) {
            return i >= 0 && i < length && i < MOST ? signs[i] : NONE;
        }

        private boolean readWord() {
            int longest = 0;
            for (int w = 0; w < WORDS; w++) {
                String spelling = spellingOf(w);
                int same = sameSigns(spelling);
                if (same == spelling.length()) {
                    word = w;
                    at += same;
                    return true;
                }
                longest = Math.max(longest, same);
            }
            at += longest;
            return false;
        }

        private int sameSigns(String spelling) {
            int same = 0;
            while (same < spelling.length() && signAt(at + same) == spelling.charAt(same)) {
                same++;
            }
            return same;
        }

        /** Reads digits as long as a number of this kind begins with them. */
        private boolean readNumber(int i, char kind) {
            int value = NONE;
            while (at < length) {
                int next = withDigit(value, signAt(at));
                if (!isBetween(next, leastOf(kind), mostOf(kind))) {
                    break;
                }
                value = next;
                at++;
            }
            if (value == NONE || i < 0 || i >= numbers.length) {
                return false;
            }
            numbers[i] = value;
            return true;
        }

        private static int withDigit(int value, int sign) {
            if (sign < '0' || sign > '9' || value == 0) {
                return NONE;
            }
            return (value == NONE ? 0 : 10 * value) + sign - '0';
        }

        private static String spellingOf(int word) {
            switch (word) {
                case MAN: return "man";
                case MAY: return "may";
                case BOOK: return "book";
                case WISH: return "wish";
                case HAS: return "has";
                default: return "run";
            }
        }

        /** The kinds of its numbers: rank, prisoner, visitor, day, hour, number of days. */
        private static String kindsOf(int word) {
            switch (word) {
                case MAN: return "r";
                case MAY: return "pv";
                case BOOK: return "pvdh";
                case WISH: return "pv";
                case HAS: return "v";
                default: return "n";
            }
        }

        private static int leastOf(char kind) {
            return kind == 'n' ? 1 : 0;
        }

        private static int mostOf(char kind) {
            switch (kind) {
                case 'r': return 3;
                case 'p': return 7;
                case 'v': return 9;
                case 'd': return 99;
                case 'h': return 7;
                default: return RUN_MOST;
            }
        }

        /** Does the last command that was read, and answers a negative number if it is left out. */
        int doCommand(Prison prison) {
            switch (word) {
                case MAN: return prison.tryAdd(numbers[0]);
                case MAY: return prison.tryList(numbers[0], numbers[1], true);
                case BOOK: return prison.tryBook(numbers[0], numbers[1], numbers[2], numbers[3]);
                case WISH: return prison.tryWish(numbers[0], numbers[1]);
                case HAS: return prison.tryCarry(numbers[0], true);
                case RUN: return prison.letDaysPass(numbers[0]);
                default: return BAD_STATE;
            }
        }
    }

    /** The states that are remembered, in a ring. */
    private static final class History {
        private static final int MOST = 14;
        // One row more: the state ahead of an action that may still fail must not take the place of the oldest one.
        private static final int ROWS = MOST + 1;

        int count;
        private int next;
        private final Prison[] rows = new Prison[ROWS];

        History() {
            for (int i = 0; i < ROWS; i++) {
                rows[i] = new Prison();
            }
        }

        /** Writes the state down, without remembering it yet. */
        void prepare(Prison now) {
            Prison row = rowAt(next);
            if (row != null) {
                row.copyFrom(now);
            }
        }

        void keepPrepared() {
            next = (next + 1) % ROWS;
            count = Math.min(count + 1, MOST);
        }

        void takeBack(Prison now) {
            int last = (next + MOST) % ROWS;
            Prison row = rowAt(last);
            if (row != null && count > 0) {
                now.copyFrom(row);
                next = last;
                count--;
            }
        }

        void forget() {
            count = 0;
        }

        private Prison rowAt(int i) {
            return i >= 0 && i < ROWS ? rows[i] : null;
        }
    }

    /** A save slot. */
    private static final class Slot {
        boolean filled;
        final Prison prison = new Prison();
    }

    /** What the digits of scripts and the numbers of simulations do to a prison. */
    private static final class Script {
        /** One more than the highest group of five digits. */
        static final int GROUP = 100000;

        /** The script without its last groups. */
        static long withoutLast(long script, int groups) {
            long rest = script;
            for (int i = 0; i < groups; i++) {
                rest /= GROUP;
            }
            return rest;
        }

        static boolean succeeds(Prison prison, int group) {
            int d2 = group / 1000 % 10;
            int d3 = group / 100 % 10;
            int d4 = group / 10 % 10;
            int d5 = group % 10;
            int number = group % 100;
            switch (group / 10000) {
                case 1: return prison.tryBook(d2, d3, prison.today + d4, d5) >= 0;
                case 2: return d4 == 0 && d5 == 0 && prison.tryWish(d2, d3) >= 0;
                case 3: return d4 == 0 && d5 <= 1 && prison.tryList(d2, d3, d5 == 1) >= 0;
                case 4: return d3 == 0 && d4 == 0 && d5 <= 1 && prison.tryCarry(d2, d5 == 1) >= 0;
                case 5: return d3 == 0 && prison.tryPunish(d2, number) >= 0;
                case 6: return d2 == 0 && d3 == 0 && isBetween(number, 1, RUN_MOST) && prison.letDaysPass(number) >= 0;
                case 7: return d3 == 0 && prison.hasPrisoner(d2) && prison.held[d2] >= number;
                case 8: return d3 == 0 && d4 == 0 && d5 == 0 && !prison.isBanned(d2, prison.today);
                case 9: return d2 == 0 && d3 == 0 && prison.bookings.count <= number;
                default: return false;
            }
        }

        static void takeTurn(Prison prison, int r) {
            int p = r / 8 % 8;
            int v = r / 64 % 10;
            switch (r % 8) {
                case 0:
                case 1: prison.tryBook(p, v, prison.today + r / 1024 % 5, r / 8192 % 8); break;
                case 2: prison.tryWish(p, v); break;
                case 3: prison.tryList(p, v, true); break;
                case 4: prison.tryCarry(v, true); break;
                case 5: prison.tryLate(r / 8 % Bookings.MOST, r / 1024 % 40); break;
                default: prison.letDaysPass(1);
            }
        }
    }
}
