/**
 * Waiting lines in which places are worth time. This class is the door: it throws what the document
 * asks, remembers states before actions, and keeps the save slots; what happens inside is the hall's.
 */
public final class StoodMinutes {
    public static final int NONE = -1;

    private static final int MOST_LINES = 3;
    private static final int MOST_PEOPLE = 30;
    private static final int MOST_IN_LINE = 12;
    private static final int MOST_PACE = 20;
    private static final int MOST_MINUTES = 60;
    private static final int MOST_TEXT = 100;
    private static final int MOST_REMEMBERED = 14;
    private static final int SLOTS = 2;
    private static final int FIRST_PACE = 3;

    private static final int PLAIN = 0;
    private static final int BY_RIGHT = 1;
    private static final int HASTY = 2;

    private static final int STANDS = 0;
    private static final int SERVED = 1;
    private static final int GONE = 2;

    private static final int LIMIT = 0;
    private static final int FEE = 1;
    private static final int PRICE = 2;
    private static final int JUMP = 3;
    private static final int SETTINGS = 4;
    private static final int[] SETTING_AT_FIRST = {30, 5, 2, 2};
    private static final int[] SETTING_LEAST = {10, 0, 1, 1};
    private static final int[] SETTING_MOST = {99, 50, 9, 5};

    private static final int FEE_EVERY = 10;
    private static final int JUMP_PAUSE = 5;

    private static final int GROUP = 100000;
    private static final int MOST_COMMANDS = 3;
    private static final int MOST_HOUSE_SHOWN = 999;

    private final Hall hall;
    private final Hall trial;
    private final History history;
    private final Hall[] slots;
    private final boolean[] filled;
    private final Day day;

    public StoodMinutes() {
        hall = new Hall();
        hall.beginAnew();
        hall.addLine(FIRST_PACE);
        trial = new Hall();
        history = new History();
        slots = new Hall[SLOTS];
        for (int slot = 0; slot < slots.length; slot++) {
            slots[slot] = new Hall();
        }
        filled = new boolean[SLOTS];
        day = new Day();
    }

    // ---- text

    public int append(int c) throws IllegalArgumentException, IllegalStateException {
        if (c < 0 || c > 255) {
            throw new IllegalArgumentException("the character is not 0 to 255");
        }
        if (day.isFull()) {
            throw new IllegalStateException("the text has 100 characters");
        }
        return day.add(c);
    }

    public int clearText() {
        return day.drop();
    }

    public int errorPosition() {
        return day.firstError();
    }

    public int load() throws IllegalStateException {
        if (day.firstError() != NONE) {
            throw new IllegalStateException("the text is not a day");
        }
        hall.beginAnew();
        history.forgetAll();
        for (int slot = 0; slot < filled.length; slot++) {
            filled[slot] = false;
        }
        return day.happenIn(hall);
    }

    // ---- what there is

    public int about(int what) throws IllegalArgumentException {
        if (what < 0 || what > 9) {
            throw new IllegalArgumentException("there is no such number");
        }
        return hall.total(what);
    }

    public int line(int l, int what) throws IndexOutOfBoundsException, IllegalArgumentException {
        requireLine(l);
        if (what < 0 || what > 4) {
            throw new IllegalArgumentException("a line has no such number");
        }
        return hall.numberOfLine(l, what);
    }

    public int at(int l, int k) throws IndexOutOfBoundsException, IllegalArgumentException {
        requireLine(l);
        if (k < 0) {
            throw new IllegalArgumentException("the place is below 0");
        }
        return hall.lineOf(l).who(k);
    }

    public int person(int p, int what) throws IndexOutOfBoundsException, IllegalArgumentException {
        requirePerson(p);
        if (what < 0 || what > 8) {
            throw new IllegalArgumentException("a person has no such number");
        }
        return hall.numberOfPerson(p, what);
    }

    public int setting(int what) throws IllegalArgumentException {
        requireSetting(what);
        return hall.settingOf(what);
    }

    // ---- actions

    public int open(int pace) throws IllegalArgumentException, IllegalStateException {
        if (pace < 1 || pace > MOST_PACE) {
            throw new IllegalArgumentException("the pace is not 1 to 20");
        }
        if (hall.hasAllLines()) {
            throw new IllegalStateException("there are 3 lines");
        }
        history.remember(hall);
        return hall.addLine(pace);
    }

    public int come(int l, int kind)
            throws IndexOutOfBoundsException, IllegalArgumentException, IllegalStateException {
        requireLine(l);
        if (!isKind(kind)) {
            throw new IllegalArgumentException("the kind is not 0 to 2");
        }
        if (!hall.mayEnter(l, kind)) {
            throw new IllegalStateException("30 came, or 12 stand in the line");
        }
        history.remember(hall);
        return hall.enter(l, kind);
    }

    public int go(int p) throws IndexOutOfBoundsException, IllegalStateException {
        requireStanding(p);
        history.remember(hall);
        return hall.leave(p);
    }

    public int exchange(int p, int q) throws IndexOutOfBoundsException, IllegalStateException {
        requireTrade(p, q);
        history.remember(hall);
        return hall.trade(p, q);
    }

    public int jump(int p) throws IndexOutOfBoundsException, IllegalStateException {
        requirePerson(p);
        if (!hall.mayPass(p)) {
            throw new IllegalStateException("the person can not jump now");
        }
        history.remember(hall);
        return hall.pass(p);
    }

    public int merge(int l, int other)
            throws IndexOutOfBoundsException, IllegalArgumentException, IllegalStateException {
        requireUnion(l, other);
        history.remember(hall);
        return hall.unite(l, other);
    }

    public int minutes(int n) throws IllegalArgumentException {
        if (n < 1 || n > MOST_MINUTES) {
            throw new IllegalArgumentException("the minutes are not 1 to 60");
        }
        history.remember(hall);
        return hall.letPass(n);
    }

    public int set(int what, int v) throws IllegalArgumentException {
        requireSetting(what);
        if (v < SETTING_LEAST[what] || v > SETTING_MOST[what]) {
            throw new IllegalArgumentException("the value is out of the setting's range");
        }
        history.remember(hall);
        return hall.changeSetting(what, v);
    }

    public int undo() throws IllegalStateException {
        if (history.isEmpty()) {
            throw new IllegalStateException("no state is remembered");
        }
        return history.takeBack(hall);
    }

    // ---- what would be, if only minutes went by

    public int servedIn(int p) throws IndexOutOfBoundsException, IllegalStateException {
        requireStanding(p);
        return hall.waitOf(p);
    }

    public int willPay(int n) throws IllegalArgumentException {
        if (n < 1 || n > 999) {
            throw new IllegalArgumentException("the minutes are not 1 to 999");
        }
        return hall.feesWithin(n);
    }

    public int gain(int p, int q) throws IndexOutOfBoundsException, IllegalStateException {
        requireTrade(p, q);
        return hall.profit(p, q);
    }

    public int partner(int p) throws IndexOutOfBoundsException {
        requirePerson(p);
        return hall.bestPartner(p);
    }

    public int bestLine() {
        return hall.soonestLine();
    }

    public int longest() {
        return hall.longestWaiting();
    }

    public int saved(int l, int other)
            throws IndexOutOfBoundsException, IllegalArgumentException, IllegalStateException {
        requireUnion(l, other);
        return hall.savedByUnion(l, other);
    }

    // ---- scripts, simulations

    public int runScript(int n, long script) throws IllegalArgumentException {
        if (n < 1 || n > MOST_COMMANDS) {
            throw new IllegalArgumentException("the commands are not 1 to 3");
        }
        if (script < 0 || withoutGroups(script, n) != 0) {
            throw new IllegalArgumentException("the script is below 0, or too long for its commands");
        }
        trial.copyFrom(hall);
        for (int i = 0; i < n; i++) {
            int group = (int) (withoutGroups(script, n - 1 - i) % GROUP);
            if (!trial.obeys(group)) {
                return i;
            }
        }
        return NONE;
    }

    /** What is left of a script without so many groups at its end. */
    private static long withoutGroups(long script, int groups) {
        long left = script;
        for (int i = 0; i < groups; i++) {
            left /= GROUP;
        }
        return left;
    }

    public int simulate(long seed, int m) throws IllegalArgumentException {
        if (m < 1 || m > 99) {
            throw new IllegalArgumentException("the turns are not 1 to 99");
        }
        trial.copyFrom(hall);
        long x = seed;
        int served = 0;
        for (int i = 0; i < m; i++) {
            x = x * 6364136223846793005L + 1442695040888963407L;
            trial.takeTurn((int) (x >>> 33));
            served += trial.letPass(1);
        }
        return 1000 * served + Math.min(MOST_HOUSE_SHOWN, trial.housePaid - hall.housePaid);
    }

    // ---- save slots

    public int save(int slot) throws IndexOutOfBoundsException {
        requireSlot(slot);
        slots[slot].copyFrom(hall);
        filled[slot] = true;
        return hall.minutes;
    }

    public int restore(int slot) throws IndexOutOfBoundsException, IllegalStateException {
        requireSlot(slot);
        if (!filled[slot]) {
            throw new IllegalStateException("nothing is saved in the slot");
        }
        hall.copyFrom(slots[slot]);
        history.forgetAll();
        return hall.minutes;
    }

    // ---- what calls of several kinds must pass first

    private void requireLine(int l) {
        if (!hall.isLine(l)) {
            throw new IndexOutOfBoundsException("there is no such line");
        }
    }

    private void requirePerson(int p) {
        if (!hall.isPerson(p)) {
            throw new IndexOutOfBoundsException("there is no such person");
        }
    }

    private void requireStanding(int p) {
        requirePerson(p);
        if (!hall.stands(p)) {
            throw new IllegalStateException("the person does not stand");
        }
    }

    private static void requireSetting(int what) {
        if (what < 0 || what >= SETTINGS) {
            throw new IllegalArgumentException("there is no such setting");
        }
    }

    private static void requireSlot(int slot) {
        if (slot < 0 || slot >= SLOTS) {
            throw new IndexOutOfBoundsException("there is no such save slot");
        }
    }

    private void requireTrade(int p, int q) {
        requirePerson(p);
        requirePerson(q);
        if (!hall.mayTrade(p, q)) {
            throw new IllegalStateException("the two can not exchange their places");
        }
    }

    private void requireUnion(int l, int other) {
        requireLine(l);
        requireLine(other);
        if (l == other) {
            throw new IllegalArgumentException("both lines are the same");
        }
        if (!hall.mayUnite(l, other)) {
            throw new IllegalStateException("more than 12 would stand in the line");
        }
    }

    private static boolean isKind(int kind) {
        return kind >= PLAIN && kind <= HASTY;
    }

    /** Someone who came. */
    private static final class Person {
        int kind;
        int line = NONE;
        int fate = GONE;
        int stood;
        int account;
        int paidByHouse;
        int cameAt;
        int fellBack;
        int jumpedAt;

        void enter(int ofKind, int toLine, int now) {
            kind = ofKind;
            line = toLine;
            fate = STANDS;
            stood = 0;
            account = 0;
            paidByHouse = 0;
            cameAt = now;
            fellBack = 0;
            // so that the pause is over for one who never jumped
            jumpedAt = now - JUMP_PAUSE;
        }

        void end(int asFate) {
            line = NONE;
            fate = asFate;
        }

        void copyFrom(Person other) {
            kind = other.kind;
            line = other.line;
            fate = other.fate;
            stood = other.stood;
            account = other.account;
            paidByHouse = other.paidByHouse;
            cameAt = other.cameAt;
            fellBack = other.fellBack;
            jumpedAt = other.jumpedAt;
        }
    }

    /** A line, its counter, and who stands where in it. */
    private static final class Line {
        int pace;
        int worked;
        int served;
        int length;
        final int[] row = new int[MOST_IN_LINE];

        void begin(int itsPace) {
            pace = itsPace;
            worked = 0;
            served = 0;
            length = 0;
        }

        void copyFrom(Line other) {
            pace = other.pace;
            worked = other.worked;
            served = other.served;
            length = other.length;
            System.arraycopy(other.row, 0, row, 0, row.length);
        }

        boolean isPlace(int k) {
            return k >= 0 && k < length && k < row.length;
        }

        int who(int k) {
            return isPlace(k) ? row[k] : NONE;
        }

        int placeOf(int p) {
            for (int k = 0; k < length && k < row.length; k++) {
                if (row[k] == p) {
                    return k;
                }
            }
            return NONE;
        }

        void add(int p) {
            if (length >= 0 && length < row.length) {
                row[length] = p;
                length++;
            }
        }

        void remove(int k) {
            if (!isPlace(k)) {
                return;
            }
            length--;
            for (int i = k; i < length && i + 1 < row.length; i++) {
                row[i] = row[i + 1];
            }
        }

        void swap(int a, int b) {
            if (isPlace(a) && isPlace(b)) {
                int first = row[a];
                row[a] = row[b];
                row[b] = first;
            }
        }

        int waitAt(int k) {
            return pace * (k + 1) - worked;
        }

        /** What so many who stand in the line would wait together. */
        int waitOfAll(int count) {
            return pace * count * (count + 1) / 2 - worked * count;
        }
    }

    /**
     * The state. Its changes answer NONE, and change nothing, where the document wants an exception:
     * scripts, simulations and texts go on then.
     */
    private static final class Hall {
        int lines;
        int people;
        int minutes;
        int exchanges;
        int jumps;
        int housePaid;
        final int[] settings = new int[SETTINGS];
        final Line[] line = new Line[MOST_LINES];
        final Person[] person = new Person[MOST_PEOPLE];
        // what an index that is out of its range finds, so that none is used unseen
        final Line noLine = new Line();
        final Person nobody = new Person();

        Hall() {
            for (int l = 0; l < line.length; l++) {
                line[l] = new Line();
            }
            for (int p = 0; p < person.length; p++) {
                person[p] = new Person();
            }
        }

        void beginAnew() {
            lines = 0;
            people = 0;
            minutes = 0;
            exchanges = 0;
            jumps = 0;
            housePaid = 0;
            System.arraycopy(SETTING_AT_FIRST, 0, settings, 0, settings.length);
        }

        void copyFrom(Hall other) {
            lines = other.lines;
            people = other.people;
            minutes = other.minutes;
            exchanges = other.exchanges;
            jumps = other.jumps;
            housePaid = other.housePaid;
            System.arraycopy(other.settings, 0, settings, 0, settings.length);
            for (int l = 0; l < line.length; l++) {
                line[l].copyFrom(other.lineOf(l));
            }
            for (int p = 0; p < person.length; p++) {
                person[p].copyFrom(other.personOf(p));
            }
        }

        // ---- what there is

        boolean isLine(int l) {
            return l >= 0 && l < lines;
        }

        boolean isPerson(int p) {
            return p >= 0 && p < people;
        }

        boolean stands(int p) {
            return isPerson(p) && personOf(p).fate == STANDS;
        }

        boolean hasAllLines() {
            return lines >= MOST_LINES;
        }

        Line lineOf(int l) {
            return l >= 0 && l < line.length ? line[l] : noLine;
        }

        Person personOf(int p) {
            return p >= 0 && p < person.length ? person[p] : nobody;
        }

        int placeOf(int p) {
            return lineOf(personOf(p).line).placeOf(p);
        }

        int settingOf(int what) {
            return what >= 0 && what < settings.length ? settings[what] : NONE;
        }

        int total(int what) {
            switch (what) {
                case 0: return minutes;
                case 1: return lines;
                case 2: return people;
                case 3: return count(STANDS);
                case 4: return count(SERVED);
                case 5: return count(GONE);
                case 6: return exchanges;
                case 7: return jumps;
                case 8: return housePaid;
                case 9: return sumOfAccounts();
                default: return NONE;
            }
        }

        int count(int fate) {
            int found = 0;
            for (int p = 0; p < people; p++) {
                if (personOf(p).fate == fate) {
                    found++;
                }
            }
            return found;
        }

        int sumOfAccounts() {
            int sum = 0;
            for (int p = 0; p < people; p++) {
                sum += personOf(p).account;
            }
            return sum;
        }

        int numberOfLine(int l, int what) {
            Line one = lineOf(l);
            switch (what) {
                case 0: return one.pace;
                case 1: return one.length;
                case 2: return one.worked;
                case 3: return one.served;
                case 4: return stoodTogether(one);
                default: return NONE;
            }
        }

        int stoodTogether(Line one) {
            int sum = 0;
            for (int k = 0; k < one.length; k++) {
                sum += personOf(one.who(k)).stood;
            }
            return sum;
        }

        int numberOfPerson(int p, int what) {
            Person one = personOf(p);
            switch (what) {
                case 0: return one.kind;
                case 1: return one.line;
                case 2: return placeOf(p);
                case 3: return one.stood;
                case 4: return one.account;
                case 5: return one.paidByHouse;
                case 6: return one.fate;
                case 7: return one.cameAt;
                case 8: return one.fellBack;
                default: return NONE;
            }
        }

        // ---- changes

        int addLine(int pace) {
            if (hasAllLines()) {
                return NONE;
            }
            lineOf(lines).begin(pace);
            lines++;
            return lines - 1;
        }

        boolean mayEnter(int l, int kind) {
            return isLine(l) && isKind(kind) && people < MOST_PEOPLE && lineOf(l).length < MOST_IN_LINE;
        }

        int enter(int l, int kind) {
            if (!mayEnter(l, kind)) {
                return NONE;
            }
            int p = people;
            people++;
            personOf(p).enter(kind, l, minutes);
            lineOf(l).add(p);
            return p;
        }

        int leave(int p) {
            if (!stands(p)) {
                return NONE;
            }
            lineOf(personOf(p).line).remove(placeOf(p));
            personOf(p).end(GONE);
            return personOf(p).stood;
        }

        boolean mayTrade(int p, int q) {
            if (!stands(p) || !stands(q)) {
                return false;
            }
            Person payer = personOf(p);
            int places = placeOf(p) - placeOf(q);
            return payer.line == personOf(q).line
                    && places > 0
                    && payer.account + payer.stood - priceOf(places) >= 0;
        }

        int priceOf(int places) {
            return settings[PRICE] * places;
        }

        int trade(int p, int q) {
            if (!mayTrade(p, q)) {
                return NONE;
            }
            int places = placeOf(p) - placeOf(q);
            int paid = priceOf(places);
            lineOf(personOf(p).line).swap(placeOf(p), placeOf(q));
            personOf(p).account -= paid;
            personOf(q).account += paid;
            personOf(p).fellBack -= places;
            personOf(q).fellBack += places;
            exchanges++;
            return paid;
        }

        boolean mayPass(int p) {
            return stands(p)
                    && personOf(p).kind != PLAIN
                    && placeOf(p) > 0
                    && minutes - personOf(p).jumpedAt >= JUMP_PAUSE;
        }

        int pass(int p) {
            if (!mayPass(p)) {
                return NONE;
            }
            Person jumper = personOf(p);
            Line where = lineOf(jumper.line);
            int from = placeOf(p);
            int passed = Math.min(settings[JUMP], from);
            for (int k = from; k > from - passed; k--) {
                payForPassing(jumper, personOf(where.who(k - 1)));
                where.swap(k - 1, k);
            }
            jumper.fellBack -= passed;
            jumper.jumpedAt = minutes;
            jumps++;
            return passed;
        }

        void payForPassing(Person jumper, Person passed) {
            passed.fellBack++;
            if (jumper.kind == BY_RIGHT) {
                payByHouse(passed, settings[PRICE]);
            } else {
                jumper.account -= settings[PRICE];
                passed.account += settings[PRICE];
            }
        }

        void payByHouse(Person one, int amount) {
            one.account += amount;
            one.paidByHouse += amount;
            housePaid += amount;
        }

        boolean mayUnite(int l, int other) {
            return isLine(l) && isLine(other) && l != other
                    && lineOf(l).length + lineOf(other).length <= MOST_IN_LINE;
        }

        int unite(int l, int other) {
            if (!mayUnite(l, other)) {
                return NONE;
            }
            Line one = lineOf(l);
            Line emptied = lineOf(other);
            for (int k = 0; k < emptied.length; k++) {
                personOf(emptied.who(k)).line = l;
                one.add(emptied.who(k));
            }
            emptied.length = 0;
            emptied.worked = 0;
            sortByStanding(one);
            return one.length;
        }

        void sortByStanding(Line one) {
            for (int i = 1; i < one.length; i++) {
                for (int k = i; k > 0 && standsBefore(one.who(k), one.who(k - 1)); k--) {
                    one.swap(k - 1, k);
                }
            }
        }

        boolean standsBefore(int p, int q) {
            int more = personOf(p).stood - personOf(q).stood;
            return more > 0 || more == 0 && p < q;
        }

        /** Lets n minutes go by; answers how many are served in them. */
        int letPass(int n) {
            int done = 0;
            for (int i = 0; i < n; i++) {
                minutes++;
                certifyMinute();
                for (int l = 0; l < lines; l++) {
                    done += work(lineOf(l));
                }
                payFees();
            }
            return done;
        }

        void certifyMinute() {
            for (int p = 0; p < people; p++) {
                if (stands(p)) {
                    personOf(p).stood++;
                }
            }
        }

        /** The counter of a line works one minute; answers how many are served then. */
        int work(Line one) {
            if (one.length == 0) {
                return 0;
            }
            one.worked++;
            if (one.worked < one.pace) {
                return 0;
            }
            personOf(one.who(0)).end(SERVED);
            one.remove(0);
            one.worked = 0;
            one.served++;
            return 1;
        }

        void payFees() {
            for (int p = 0; p < people; p++) {
                int over = personOf(p).stood - settings[LIMIT];
                if (stands(p) && over >= 0 && over % FEE_EVERY == 0) {
                    payByHouse(personOf(p), settings[FEE]);
                }
            }
        }

        int changeSetting(int what, int v) {
            if (what < 0 || what >= settings.length) {
                return NONE;
            }
            int previous = settings[what];
            settings[what] = v;
            return previous;
        }

        // ---- what would be, if only minutes went by

        int waitOf(int p) {
            return lineOf(personOf(p).line).waitAt(placeOf(p));
        }

        int feesWithin(int n) {
            int times = 0;
            for (int p = 0; p < people; p++) {
                if (stands(p)) {
                    int stood = personOf(p).stood;
                    // in the minute in which one is served, no fee is paid
                    int standing = Math.min(n, waitOf(p) - 1);
                    times += feesUpTo(stood + standing) - feesUpTo(stood);
                }
            }
            return times * settings[FEE];
        }

        /** How many fees are due to one who stands, from the start to so many minutes stood. */
        int feesUpTo(int stood) {
            int over = stood - settings[LIMIT];
            return over < 0 ? 0 : over / FEE_EVERY + 1;
        }

        int profit(int p, int q) {
            Line where = lineOf(personOf(p).line);
            int from = placeOf(p);
            int to = placeOf(q);
            return where.waitAt(from) - where.waitAt(to) - priceOf(from - to);
        }

        int bestPartner(int p) {
            int best = NONE;
            for (int q = 0; q < people; q++) {
                if (mayTrade(p, q) && (best == NONE || profit(p, q) > profit(p, best))) {
                    best = q;
                }
            }
            return best;
        }

        int soonestLine() {
            int best = NONE;
            for (int l = 0; l < lines; l++) {
                if (mayEnter(l, PLAIN) && (best == NONE || waitAtEnd(l) < waitAtEnd(best))) {
                    best = l;
                }
            }
            return best;
        }

        int waitAtEnd(int l) {
            return lineOf(l).waitAt(lineOf(l).length);
        }

        int longestWaiting() {
            int longest = NONE;
            for (int p = 0; p < people; p++) {
                if (stands(p) && (longest == NONE || standingAtEnd(p) > standingAtEnd(longest))) {
                    longest = p;
                }
            }
            return longest;
        }

        int standingAtEnd(int p) {
            return personOf(p).stood + waitOf(p);
        }

        int savedByUnion(int l, int other) {
            Line one = lineOf(l);
            Line emptied = lineOf(other);
            return one.waitOfAll(one.length) + emptied.waitOfAll(emptied.length)
                    - one.waitOfAll(one.length + emptied.length);
        }

        // ---- commands of scripts, turns of simulations

        /** Does a command of five digits; answers whether it succeeds. */
        boolean obeys(int group) {
            int first = group / 1000 % 10;
            int second = group / 100 % 10;
            int high = group / 100 % 100;
            int low = group % 100;
            switch (group / 10000) {
                case 1: return low == 0 && enter(first, second) != NONE;
                case 2: return high == 0 && leave(low) != NONE;
                case 3: return trade(high, low) != NONE;
                case 4: return high == 0 && pass(low) != NONE;
                case 5: return low == 0 && unite(first, second) != NONE;
                case 6: return high == 0 && low >= 1 && low <= MOST_MINUTES && letPass(low) != NONE;
                case 7: return high == 0 && isPerson(low) && personOf(low).fate == SERVED;
                case 8: return stands(high) && placeOf(high) == low;
                case 9: return first == 0 && housePaid <= group % 1000;
                default: return false;
            }
        }

        void takeTurn(int r) {
            int there = Math.max(1, lines);
            int came = Math.max(1, people);
            int l = r / 16 % there;
            int p = r / 64 % came;
            int way = r % 16;
            if (way <= 4) {
                enter(l, r / 64 % 3);
            } else if (way <= 7) {
                trade(p, r / 2048 % came);
            } else if (way <= 9) {
                pass(p);
            } else if (way == 10) {
                leave(p);
            } else if (way == 11) {
                unite(l, r / 64 % there);
            }
        }
    }

    /** The states before the last actions, in a ring of rows that are used again. */
    private static final class History {
        final Hall[] states = new Hall[MOST_REMEMBERED];
        int oldest;
        int remembered;

        History() {
            for (int i = 0; i < states.length; i++) {
                states[i] = new Hall();
            }
        }

        boolean isEmpty() {
            return remembered == 0;
        }

        void forgetAll() {
            oldest = 0;
            remembered = 0;
        }

        Hall stateAt(int age) {
            return states[Math.floorMod(oldest + age, MOST_REMEMBERED)];
        }

        void remember(Hall hall) {
            stateAt(remembered).copyFrom(hall);
            if (remembered < MOST_REMEMBERED) {
                remembered++;
            } else {
                oldest = (oldest + 1) % MOST_REMEMBERED;
            }
        }

        int takeBack(Hall hall) {
            if (isEmpty()) {
                return NONE;
            }
            remembered--;
            hall.copyFrom(stateAt(remembered));
            return remembered;
        }
    }

    /** The text buffer, read as a day. */
    private static final class Day {
        final int[] text = new int[MOST_TEXT];
        int length;
        int position;

        boolean isFull() {
            return length >= text.length;
        }

        int add(int c) {
            if (!isFull()) {
                text[length] = c;
                length++;
            }
            return length;
        }

        int drop() {
            int previous = length;
            length = 0;
            return previous;
        }

        int charAt(int i) {
            return i >= 0 && i < length ? text[i] : NONE;
        }

        int digitAt(int i) {
            return charAt(i) - '0';
        }

        int numberAt(int i) {
            return 10 * digitAt(i) + digitAt(i + 1);
        }

        // ---- checking

        /** The error position, at which the checking stops; NONE if it comes to the end. */
        int firstError() {
            position = 0;
            if (!takeLines()) {
                return position;
            }
            for (int i = 0; i < MOST_TEXT && position < length; i++) {
                if (!takeCommand()) {
                    return position;
                }
            }
            return NONE;
        }

        /** Goes on behind the next character, if there is one and it lies between these. */
        boolean take(int least, int most) {
            int c = charAt(position);
            if (c < least || c > most) {
                return false;
            }
            position++;
            return true;
        }

        boolean takeLines() {
            if (!take('W', 'W') || !take('1', '3')) {
                return false;
            }
            int lines = digitAt(position - 1);
            for (int l = 0; l < lines; l++) {
                if (!takePace()) {
                    return false;
                }
            }
            return true;
        }

        boolean takePace() {
            if (!take('0', '2')) {
                return false;
            }
            switch (charAt(position - 1)) {
                case '0': return take('1', '9');
                case '1': return take('0', '9');
                default: return take('0', '0');
            }
        }

        boolean takePerson() {
            return take('0', '2') && take('0', '9');
        }

        boolean takeCommand() {
            switch (charAt(position)) {
                case 'c': return take('c', 'c') && take('0', '2') && take('0', '2');
                case 'g': return take('g', 'g') && takePerson();
                case 'x': return take('x', 'x') && takePerson() && takePerson();
                case 'j': return take('j', 'j') && takePerson();
                case 't': return take('t', 't') && take('1', '9');
                default: return false;
            }
        }

        // ---- loading

        /** Opens the lines of a day and does its commands; answers how many are left out. */
        int happenIn(Hall hall) {
            int lines = digitAt(1);
            for (int l = 0; l < lines; l++) {
                hall.addLine(numberAt(2 + 2 * l));
            }
            int leftOut = 0;
            for (int i = 2 + 2 * lines; i < length; i++) {
                if (isCommand(i) && doCommand(hall, i) == NONE) {
                    leftOut++;
                }
            }
            return leftOut;
        }

        boolean isCommand(int i) {
            // behind the lines, a day has letters of commands and their digits alone
            return charAt(i) > '9';
        }

        int doCommand(Hall hall, int i) {
            switch (charAt(i)) {
                case 'c': return hall.enter(digitAt(i + 2), digitAt(i + 1));
                case 'g': return hall.leave(numberAt(i + 1));
                case 'x': return hall.trade(numberAt(i + 1), numberAt(i + 3));
                case 'j': return hall.pass(numberAt(i + 1));
                case 't': return hall.letPass(digitAt(i + 1));
                default: return NONE;
            }
        }
    }
}
