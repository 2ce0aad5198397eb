/** The promises 27 and 28: scripts and simulations. */
final class ScriptEdgesTest extends Edges {
    private static final int[] FAR = {Integer.MIN_VALUE, Integer.MAX_VALUE};

    public static void main(String[] args) {
        run(ScriptEdgesTest.class);
    }

    // ---- promise 27

    private static final String RUN = "Runs a script on a copy of the state. A script has 1 to 3 commands;";
    private static final String GROUPS = "each is a group of five decimal digits d1 to d5, and the first command is the "
            + "highest group of the number (with zeros before it, if it has fewer digits).";
    private static final String INDEX_OF = "Returns the index, from 0, of the first command that fails; "
            + "NONE if all succeed.";
    private static final String N = "`n`: number of commands, 1 to 3";
    private static final String SCRIPT = "`script`: the commands, a number of at most 5 * n digits (0 or more)";
    private static final String REFUSED = "Throws `IllegalArgumentException` if n is out of range, or if script is "
            + "negative or has more than 5 * n digits";
    private static final String FAIL = "The commands 1 to 6 fail if the method would throw an exception;";
    private static final String NO_PERSON = "commands with persons that do not exist fail,";
    private static final String OTHER = "and so does any other group (also one with another digit where a 0 is written).";
    private static final String DECIMAL = "pp, qq, nn, kk and xyz are decimal numbers.";

    /** In line 0 stand 1 (by right) and 2 (hasty), in line 1 3, 4 and 5, 4 minutes each; 0 is served. */
    private static StoodMinutes asked() {
        return day("W20310c00c10c20c01c11c21t4");
    }

    /** The commands, as one number of five digits each, fail first at this index on x, or do not fail: -1. */
    private void script(int index, int... commands) {
        long script = 0;
        for (int command : commands) {
            script = script * 100000 + command;
        }
        long all = script;
        is(index, () -> x.runScript(commands.length, all));
    }

    /** On x, the command alone succeeds, and these fail. */
    private void succeeds(int command, int... failing) {
        script(-1, command);
        for (int other : failing) {
            script(0, other);
        }
    }

    @Says(in = "27", words = {RUN, N})
    void promise27_n_least1() {
        x = asked();
        script(-1, 70000);
    }

    @Says(in = "27", words = {RUN, N})
    void promise27_n_most3() {
        x = asked();
        script(-1, 70000, 70000, 70000);
    }

    @Says(in = "27", words = RUN)
    void promise27_onACopyOfTheState() {
        x = asked();
        script(-1, 20001, 20002, 60060);
        row(0, 1, 2);
        is(4, () -> x.about(0));
        script(-1, 20001, 20002, 60060);
    }

    @Says(in = "27", words = SCRIPT)
    void promise27_script_least0() {
        x = asked();
        script(0, 0);
        script(0, 0, 0);
        script(0, 0, 0, 0);
    }

    @Says(in = "27", words = SCRIPT)
    void promise27_script_5digitsOfEachCommand() {
        x = asked();
        is(0, () -> x.runScript(1, 99999L));
        is(0, () -> x.runScript(2, 9999999999L));
        is(0, () -> x.runScript(3, 999999999999999L));
    }

    @Says(in = "27", words = REFUSED)
    void promise27_n_0() {
        refused(ARGUMENT, Edges::lived, y -> y.runScript(0, 0));
    }

    @Says(in = "27", words = REFUSED)
    void promise27_n_4() {
        refused(ARGUMENT, Edges::lived, y -> y.runScript(4, 0));
        refused(ARGUMENT, Edges::lived, y -> y.runScript(4, 70000700007000070L));
    }

    @Says(in = "27", words = REFUSED)
    void promise27_n_farOutOfRange() {
        refused(ARGUMENT, Edges::lived, y -> y.runScript(-1, 70000));
        for (int n : FAR) {
            refused(ARGUMENT, Edges::lived, y -> y.runScript(n, 70000));
        }
    }

    @Says(in = "27", words = REFUSED)
    void promise27_script_minus1() {
        refused(ARGUMENT, Edges::lived, y -> y.runScript(1, -1));
        refused(ARGUMENT, Edges::lived, y -> y.runScript(3, -1));
        refused(ARGUMENT, Edges::lived, y -> y.runScript(1, -70000));
    }

    @Says(in = "27", words = REFUSED)
    void promise27_script_oneDigitMore() {
        refused(ARGUMENT, Edges::lived, y -> y.runScript(1, 100000L));
        refused(ARGUMENT, Edges::lived, y -> y.runScript(2, 10000000000L));
        refused(ARGUMENT, Edges::lived, y -> y.runScript(3, 1000000000000000L));
    }

    @Says(in = "27", words = REFUSED)
    void promise27_script_farOutOfRange() {
        for (int n = 1; n <= 3; n++) {
            int commands = n;
            refused(ARGUMENT, Edges::lived, y -> y.runScript(commands, Long.MAX_VALUE));
            refused(ARGUMENT, Edges::lived, y -> y.runScript(commands, Long.MIN_VALUE));
        }
    }

    @Says(in = "27", words = REFUSED)
    void promise27_bothOutOfRange() {
        refused(ARGUMENT, Edges::lived, y -> y.runScript(0, -1));
        refused(ARGUMENT, Edges::lived, y -> y.runScript(4, Long.MAX_VALUE));
    }

    @Says(in = "27", words = GROUPS)
    void promise27_theHighestGroupIsTheFirstCommand() {
        x = asked();
        script(-1, 20001, 80200);
        script(0, 80200, 20001);
    }

    @Says(in = "27", words = GROUPS)
    void promise27_withZerosBeforeAShorterNumber() {
        x = asked();
        is(-1, () -> x.runScript(1, 70000));
        is(0, () -> x.runScript(2, 70000));
        is(0, () -> x.runScript(3, 7000070000L));
    }

    @Says(in = "27", words = INDEX_OF)
    void promise27_theFirstCommandFails() {
        x = asked();
        script(0, 70001);
        script(0, 70001, 70001, 70001);
    }

    @Says(in = "27", words = INDEX_OF)
    void promise27_theSecondCommandFails() {
        x = asked();
        script(1, 70000, 70001, 70000);
        script(1, 20001, 20001, 70001);
    }

    @Says(in = "27", words = INDEX_OF)
    void promise27_theLastCommandFails() {
        x = asked();
        script(2, 70000, 70000, 70001);
    }

    @Says(in = "27", words = INDEX_OF)
    void promise27_allSucceed() {
        x = asked();
        script(-1, 60060, 70003, 70005);
    }

    @Says(in = "27", words = {"1 l k 0 0: come(l, k).", FAIL, OTHER})
    void promise27_command1_lines() {
        x = asked();
        succeeds(10000, 10010, 10001, 12000, 19000);
        succeeds(11000, 11010, 11001);
    }

    @Says(in = "27", words = {"1 l k 0 0: come(l, k).", FAIL})
    void promise27_command1_kinds() {
        x = asked();
        succeeds(10200, 10300, 10900);
        script(-1, 10200, 40006, 80600);
        script(1, 10000, 40006);
    }

    @Says(in = "27", words = {"1 l k 0 0: come(l, k).", FAIL})
    void promise27_command1_aFullLine() {
        x = Seen.withPeople(11);
        script(1, 10000, 10000);
        x.open(4);
        script(-1, 10000, 11000);
    }

    @Says(in = "27", words = {"1 l k 0 0: come(l, k).", FAIL})
    void promise27_command1_30came() {
        x = day("W3202020" + "c00".repeat(12) + "c01".repeat(12) + "c02".repeat(5));
        script(1, 12000, 12000);
    }

    @Says(in = "27", words = {"2 0 0 p p: go(pp).", FAIL, OTHER})
    void promise27_command2() {
        x = asked();
        succeeds(20001, 20000, 20101, 21001, 20901, 29001);
        script(-1, 20005, 80401);
        script(1, 20005, 20005);
    }

    @Says(in = "27", words = {"3 p p q q: exchange(pp, qq).", FAIL})
    void promise27_command3() {
        x = asked();
        succeeds(30201, 30102, 30101, 30200, 30002, 30301);
        script(-1, 30201, 80200, 80101);
    }

    @Says(in = "27", words = {"3 p p q q: exchange(pp, qq).", FAIL})
    void promise27_command3_whatOneCanJustPay_andJustCannot() {
        x = asked();
        script(-1, 30503);
        x.set(2, 3);
        script(0, 30503);
        script(-1, 30504);
        x.set(2, 5);
        script(0, 30504);
    }

    @Says(in = "27", words = {"4 0 0 p p: jump(pp).", FAIL, OTHER})
    void promise27_command4() {
        x = asked();
        succeeds(40002, 40000, 40001, 40003, 40102, 41002, 40902, 49002);
        script(-1, 40005, 80500, 80402);
    }

    @Says(in = "27", words = {"4 0 0 p p: jump(pp).", FAIL})
    void promise27_command4_twiceWithin5Minutes() {
        x = asked();
        x.set(3, 1);
        script(1, 40005, 40005);
        script(2, 40005, 60004, 40005);
        script(-1, 40005, 60005, 40005);
    }

    @Says(in = "27", words = {"5 l m 0 0: merge(l, m).", FAIL, OTHER})
    void promise27_command5() {
        x = asked();
        succeeds(50100, 50000, 50110, 50101, 50200, 52000, 50900, 59000);
        succeeds(51000, 51100);
        script(-1, 50100, 80504);
        script(-1, 51000, 80504, 80302);
    }

    @Says(in = "27", words = "5 l m 0 0: merge(l, m).")
    void promise27_command5_intoTheFirstOfTheTwo() {
        // the counter of line 0 has worked 1 of 3 minutes, that of line 1 4 of 10
        x = asked();
        script(-1, 50100, 60002, 70001);
        script(2, 51000, 60002, 70001);
        script(-1, 51000, 60006, 70001);
    }

    @Says(in = "27", words = {"5 l m 0 0: merge(l, m).", FAIL})
    void promise27_command5_12and13() {
        x = day("W22020" + "c00".repeat(7) + "c01".repeat(4));
        script(-1, 11000, 50100);
        script(2, 11000, 11000, 50100);
    }

    @Says(in = "27", words = {"6 0 0 n n: minutes(nn).", FAIL, OTHER})
    void promise27_command6_nn_1to60() {
        x = asked();
        succeeds(60001, 60000, 60101, 61001);
        succeeds(60060, 60061, 60099, 60160, 61060);
    }

    @Says(in = "27", words = "6 0 0 n n: minutes(nn).")
    void promise27_command6_justAsManyAsAreWanted() {
        x = asked();
        script(-1, 60002, 70001);
        script(1, 60001, 70001);
    }

    @Says(in = "27", words = {"7 0 0 p p: succeeds if the person pp is served.", OTHER})
    void promise27_command7() {
        x = asked();
        succeeds(70000, 70001, 70100, 71000, 70900, 79000);
    }

    @Says(in = "27", words = "7 0 0 p p: succeeds if the person pp is served.")
    void promise27_command7_oneWhoIsGone() {
        x = asked();
        script(1, 20001, 70001);
    }

    @Says(in = "27", words = "8 p p k k: succeeds if the person pp stands at the place kk.")
    void promise27_command8_theFirstPlace() {
        x = asked();
        succeeds(80100, 80101, 80200, 80000, 80001);
    }

    @Says(in = "27", words = "8 p p k k: succeeds if the person pp stands at the place kk.")
    void promise27_command8_theLastPlaceOfAFullLine() {
        x = Seen.withPeople(12);
        succeeds(81111, 81110, 81112, 81011, 81199);
    }

    @Says(in = "27", words = "8 p p k k: succeeds if the person pp stands at the place kk.")
    void promise27_command8_oneWhoStandsNoLonger() {
        x = asked();
        script(0, 80000);
        script(1, 20001, 80100);
        script(-1, 20001, 80200);
    }

    @Says(in = "27", words = {"9 0 x y z: succeeds if the house has paid at most xyz so far.", OTHER})
    void promise27_command9_nothingIsPaid() {
        x = asked();
        succeeds(90000, 91000, 99000);
        succeeds(90999, 91999);
    }

    @Says(in = "27", words = {"9 0 x y z: succeeds if the house has paid at most xyz so far.", DECIMAL})
    void promise27_command9_justAsMuchAndOneLess() {
        x = asked();
        x.jump(4);
        is(2, () -> x.about(8));
        succeeds(90002, 90001, 90000);
        succeeds(90010);
    }

    @Says(in = "27", words = "9 0 x y z: succeeds if the house has paid at most xyz so far.")
    void promise27_command9_999() {
        x = payers(27, 37);
        x.minutes(1);
        is(999, () -> x.about(8));
        succeeds(90999, 90998);
        x = payers(20, 50);
        x.minutes(1);
        is(1000, () -> x.about(8));
        script(0, 90999);
    }

    @Says(in = "27", words = "9 0 x y z: succeeds if the house has paid at most xyz so far.")
    void promise27_command9_whatTheScriptItselfMadeItPayCounts() {
        x = asked();
        script(-1, 40004, 90002);
        script(1, 40004, 90001);
    }

    @Says(in = "27", words = NO_PERSON)
    void promise27_personsThatDoNotExist() {
        x = asked();
        for (int p : new int[] {6, 29, 30, 99}) {
            script(0, 20000 + p);
            script(0, 30000 + p);
            script(0, 30000 + 100 * p);
            script(0, 30000 + 101 * p);
            script(0, 40000 + p);
            script(0, 70000 + p);
            script(0, 80000 + 100 * p);
        }
    }

    @Says(in = "27", words = NO_PERSON)
    void promise27_personsOfADayBeforeDoNotExist() {
        x = day("W120c00c10c10c10t9");
        x.clearText();
        Seen.write(x, "W120c00");
        x.load();
        script(-1, 20000);
        for (int command : new int[] {20001, 30100, 30201, 40001, 40003, 80100, 80101}) {
            script(0, command);
        }
        x = day("W101c00c00t2");
        script(-1, 70000, 70001);
        x.clearText();
        Seen.write(x, "W101c00t1");
        x.load();
        script(-1, 70000);
        script(0, 70001);
    }

    @Says(in = "27", words = NO_PERSON)
    void promise27_aPersonThatWasTakenBackDoesNotExist() {
        x = day("W120c00");
        x.come(0, 1);
        script(-1, 20001);
        x.undo();
        script(0, 20001);
        script(0, 40001);
    }

    @Says(in = "27", words = NO_PERSON)
    void promise27_thePersonThatJustExists() {
        x = asked();
        succeeds(20005, 20006);
        succeeds(80502, 80602);
        script(-1, 10000, 20006);
    }

    @Says(in = "27", words = OTHER)
    void promise27_aGroupThatBeginsWith0() {
        x = asked();
        for (int group : new int[] {0, 1, 100, 1000, 9999, 7000}) {
            script(0, group);
            script(1, 70000, group);
        }
    }

    @Says(in = "27", words = DECIMAL)
    void promise27_decimalNumbers() {
        x = Seen.withPeople(12);
        script(-1, 20010, 81110);
        script(-1, 81010);
        script(-1, 60010, 70002);
        script(1, 60010, 70003);
    }

    // ---- promise 28

    private static final String SIMULATE = "Simulates m turns on a copy of the state. A long x starts as the seed.";
    private static final String OVERFLOW = "Each turn first replaces x by x * 6364136223846793005L + "
            + "1442695040888963407L (with long overflow), and r = (int) (x >>> 33) is computed.";
    private static final String L_P_Q = "l is r / 16 % (the lines), p is r / 64 % n, q is r / 2048 % n, where n is the "
            + "number of people who came, or 1 if nobody came.";
    private static final String WAYS = "By r % 16: 0 to 4: come(l, r / 64 % 3). 5 to 7: exchange(p, q). 8 and 9: "
            + "jump(p). 10: go(p). 11: merge(l, r / 64 % (the lines)). 12 to 15: nothing.";
    private static final String LEFT_OUT = "What would throw an exception is left out. Then a minute goes by.";
    private static final String ANSWER = "Returns 1000 * (how many are served in them) + (what the house pays in them, "
            + "or 999 if more).";
    private static final String M = "`m`: number of turns, 1 to 99";
    private static final String M_RANGE = "Throws `IllegalArgumentException` if m is out of range";

    private static final long FACTOR = 6364136223846793005L;
    private static final long MORE = 1442695040888963407L;

    /** The seed whose first turn has this r; the other bits of its x are these. */
    private static long seed(int r, int otherBits) {
        long inverse = FACTOR;
        for (int i = 0; i < 6; i++) {
            inverse *= 2 - FACTOR * inverse;
        }
        return (((long) r << 33 | otherBits) - MORE) * inverse;
    }

    /** A first turn with this r, and nothing else, has this outcome on x. */
    private void turn(int outcome, int r) {
        is(outcome, () -> x.simulate(seed(r, 0), 1));
    }

    /** People who will have stood the limit in the next minute, each of whom is paid a fee then. */
    private static StoodMinutes payers(int people, int fee) {
        StringBuilder day = new StringBuilder("W3202020");
        for (int p = 0; p < people; p++) {
            day.append("c0").append(p / 12);
        }
        StoodMinutes y = day(day.toString());
        y.set(0, 10);
        y.set(1, fee);
        y.minutes(9);
        return y;
    }

    @Says(in = "28", words = {SIMULATE, M, "`seed`: any long"})
    void promise28_m_least1() {
        for (long seed : new long[] {0, 1, 2, 3, 4, 5, 6, 7}) {
            int simulated = asked().simulate(seed, 1);
            is(ScriptTest.byHand(asked(), seed, 1), () -> simulated);
        }
    }

    @Says(in = "28", words = M)
    void promise28_m_most99() {
        for (long seed : new long[] {0, 1, 2, 3, 4, 5, 6, 7}) {
            int simulated = new StoodMinutes().simulate(seed, 99);
            is(ScriptTest.byHand(new StoodMinutes(), seed, 99), () -> simulated);
        }
    }

    @Says(in = "28", words = M_RANGE)
    void promise28_m_0() {
        refused(ARGUMENT, Edges::lived, y -> y.simulate(1, 0));
    }

    @Says(in = "28", words = M_RANGE)
    void promise28_m_100() {
        refused(ARGUMENT, Edges::lived, y -> y.simulate(1, 100));
    }

    @Says(in = "28", words = M_RANGE)
    void promise28_m_farOutOfRange() {
        refused(ARGUMENT, Edges::lived, y -> y.simulate(1, -1));
        for (int m : FAR) {
            refused(ARGUMENT, Edges::lived, y -> y.simulate(1, m));
        }
    }

    @Says(in = "28", words = {"`seed`: any long", OVERFLOW})
    void promise28_seed_theLeastAndTheGreatestLong() {
        for (long seed : new long[] {Long.MIN_VALUE, Long.MIN_VALUE + 1, -1, 0, Long.MAX_VALUE - 1, Long.MAX_VALUE}) {
            int simulated = asked().simulate(seed, 60);
            is(ScriptTest.byHand(asked(), seed, 60), () -> simulated);
        }
    }

    @Says(in = "28", words = OVERFLOW)
    void promise28_r_least0() {
        x = day("W101");
        turn(1000, 0);
    }

    @Says(in = "28", words = OVERFLOW)
    void promise28_r_ofAnXBelow0isNotBelow0() {
        x = day("W101");
        turn(1000, 1 << 30);
        turn(1000, (1 << 30) - 16);
    }

    @Says(in = "28", words = OVERFLOW)
    void promise28_r_most() {
        x = day("W101");
        turn(1000, Integer.MAX_VALUE - 15);
        turn(0, Integer.MAX_VALUE);
    }

    @Says(in = "28", words = OVERFLOW)
    void promise28_r_hasNothingOfTheLower33Bits() {
        x = day("W101");
        is(1000, () -> x.simulate(seed(4, -1 >>> 1), 1));
        is(0, () -> x.simulate(seed(5, 0), 1));
    }

    @Says(in = "28", words = L_P_Q)
    void promise28_l_isWithinTheLines() {
        x = day("W3200120");
        turn(0, 0);
        turn(1000, 16);
        turn(0, 32);
        turn(0, 48);
        turn(1000, 64);
    }

    @Says(in = "28", words = L_P_Q)
    void promise28_p_isWithinThePeople() {
        // the house pays 2 when 1 jumps, and 4 when 2 does
        x = day("W120c00c10c10");
        turn(0, 8);
        turn(2, 64 + 8);
        turn(4, 128 + 8);
        turn(0, 192 + 8);
        turn(2, 256 + 8);
    }

    @Says(in = "28", words = L_P_Q)
    void promise28_q_isWithinThePeople() {
        // if 2 exchanges with 0, 0 stands on, and is paid a fee; not if it does with 1 or 2
        x = day("W120c00t9c00c00t9t1");
        x.set(0, 20);
        turn(1005, 128 + 5);
        turn(1000, 2048 + 5);
        turn(1000, 2 * 2048 + 64 + 5);
        turn(1005, 3 * 2048 + 128 + 5);
        turn(1005, 201 * 2048 + 128 + 5);
        turn(1000, 202 * 2048 + 5);
    }

    @Says(in = "28", words = L_P_Q)
    void promise28_nobodyCame() {
        for (int way = 5; way <= 15; way++) {
            turn(0, way);
            turn(0, 2048 + 64 + way);
        }
    }

    @Says(in = "28", words = L_P_Q)
    void promise28_n_countsThoseWhoCameInTheTurnsBefore() {
        x = day("W120c00");
        is(2, () -> x.simulate(comesAndJumps(1), 2));
    }

    /** A first turn in which a second one of this kind comes, and a next one in which this one jumps. */
    private static long comesAndJumps(int kind) {
        for (int bits = 0; bits < 100000; bits++) {
            long first = (long) (64 * kind) << 33 | bits;
            int r = (int) (first * FACTOR + MORE >>> 33);
            if (r % 16 == 8 && r / 64 % 2 == 1) {
                return seed(64 * kind, bits);
            }
        }
        throw new IllegalStateException("there is no such seed");
    }

    @Says(in = "28", words = WAYS)
    void promise28_0to4_come() {
        x = day("W101");
        for (int way = 0; way <= 4; way++) {
            turn(1000, way);
        }
        turn(0, 5);
        turn(0, 15);
    }

    @Says(in = "28", words = WAYS)
    void promise28_come_kind0to2() {
        x = day("W120c00");
        is(0, () -> x.simulate(comesAndJumps(0), 2));
        is(2, () -> x.simulate(comesAndJumps(1), 2));
        is(0, () -> x.simulate(comesAndJumps(2), 2));
        is(0, () -> x.simulate(comesAndJumps(3), 2));
        is(2, () -> x.simulate(comesAndJumps(4), 2));
    }

    @Says(in = "28", words = WAYS)
    void promise28_5to7_exchange() {
        // if 1 exchanges with 0, 0 stands on, and is paid a fee
        x = day("W120c00t9c00t9t1");
        x.set(0, 20);
        turn(1000, 64 + 4);
        turn(1005, 64 + 5);
        turn(1005, 64 + 6);
        turn(1005, 64 + 7);
        turn(1000, 64 + 8);
    }

    @Says(in = "28", words = WAYS)
    void promise28_8and9_jump() {
        x = day("W120c00c10");
        turn(0, 64 + 7);
        turn(2, 64 + 8);
        turn(2, 64 + 9);
        turn(0, 64 + 10);
    }

    @Says(in = "28", words = WAYS)
    void promise28_10_go() {
        x = day("W101c00");
        turn(1000, 9);
        turn(0, 10);
        turn(1000, 11);
    }

    @Says(in = "28", words = WAYS)
    void promise28_11_merge() {
        x = day("W22001c00");
        turn(0, 16 + 10);
        turn(1000, 16 + 11);
        turn(0, 16 + 12);
        turn(0, 64 + 11);
        turn(0, 64 + 16 + 11);
    }

    @Says(in = "28", words = WAYS)
    void promise28_12to15_nothing() {
        // whatever else was done, the outcome would be another one
        for (int way = 12; way <= 15; way++) {
            x = day("W101");
            turn(0, way);
            x = day("W101c00");
            turn(1000, way);
            x = day("W22001c00");
            turn(0, 16 + way);
            x = day("W120c00c10");
            turn(0, 64 + way);
        }
    }

    @Says(in = "28", words = LEFT_OUT)
    void promise28_aComingToAFullLineIsLeftOut() {
        x = day("W101" + "c00".repeat(12));
        turn(1000, 0);
    }

    @Says(in = "28", words = LEFT_OUT)
    void promise28_aMinuteGoesByInEachTurn() {
        x = day("W105c00");
        is(0, () -> x.simulate(seed(15, 0), 1));
        x.minutes(4);
        is(1000, () -> x.simulate(seed(15, 0), 1));
    }

    @Says(in = "28", words = ANSWER)
    void promise28_theHousePays999() {
        x = payers(27, 37);
        turn(999, 15);
    }

    @Says(in = "28", words = ANSWER)
    void promise28_theHousePaysLess() {
        x = payers(26, 38);
        turn(988, 15);
    }

    @Says(in = "28", words = ANSWER)
    void promise28_theHousePays1000() {
        x = payers(20, 50);
        turn(999, 15);
    }

    @Says(in = "28", words = ANSWER)
    void promise28_theHousePays1500() {
        x = payers(30, 50);
        turn(999, 15);
    }

    @Says(in = "28", words = ANSWER)
    void promise28_theHousePaidBefore() {
        x = payers(30, 50);
        x.minutes(1);
        is(1500, () -> x.about(8));
        turn(0, 15);
    }

    @Says(in = "28", words = ANSWER)
    void promise28_thoseWhoWereServedBeforeDoNotCount() {
        x = day("W3010120c00c01c00c01c02t1");
        is(2, () -> x.about(4));
        turn(2000, 15);
    }

    @Says(in = "28", words = SIMULATE)
    void promise28_onACopyOfTheState() {
        x = day("W3010101c00c01c02");
        turn(3000, 15);
        turn(3000, 15);
        is(0, () -> x.about(0));
    }
}
