/** Promises 27 and 28: scripts and simulations. */
final class ScriptTest {
    private static final Due due = new Due();

    public static void main(String[] args) {
        promise27Arguments();
        promise27ComeAndGo();
        promise27ExchangeAndJump();
        promise27MergeAndMinutes();
        promise27Questions();
        promise27OtherGroups();
        promise27ChangesNothing();
        promise28Arguments();
        promise28Simulate();
        promise28ChangesNothing();
        due.end("ScriptTest");
    }

    private static void script(StoodMinutes x, int answer, int n, long script) {
        due.is("27: runScript(" + n + ", " + script + ")", answer, () -> x.runScript(n, script));
    }

    /** Line 0: 0 1 2 of the kinds 0 1 2, line 1: 3 4 5 alike; 4 minutes went by, 0 is served. */
    private static StoodMinutes three() {
        StoodMinutes x = new StoodMinutes();
        x.open(10);
        for (int p = 0; p < 6; p++) {
            x.come(p / 3, p % 3);
        }
        x.minutes(4);
        return x;
    }

    private static void promise27Arguments() {
        StoodMinutes x = three();
        for (int n : new int[] {0, 4, -1, Integer.MIN_VALUE, Integer.MAX_VALUE}) {
            due.throwsArgument("27: runScript(" + n + ", 0)", () -> x.runScript(n, 0));
        }
        due.throwsArgument("27: a script below 0", () -> x.runScript(1, -1));
        due.throwsArgument("27: the least script", () -> x.runScript(3, Long.MIN_VALUE));
        due.throwsArgument("27: 6 digits for 1 command", () -> x.runScript(1, 100000));
        due.throwsArgument("27: 11 digits for 2 commands", () -> x.runScript(2, 10000000000L));
        due.throwsArgument("27: 16 digits for 3 commands", () -> x.runScript(3, 1000000000000000L));
        due.throwsArgument("27: the greatest script", () -> x.runScript(3, Long.MAX_VALUE));
        script(x, 0, 1, 99999);
        script(x, 0, 2, 9999999999L);
        script(x, 0, 3, 999999999999999L);
        script(x, 0, 1, 0);
        script(x, 0, 3, 70000);
        script(x, 1, 2, 7000000000L);
    }

    private static void promise27ComeAndGo() {
        StoodMinutes x = three();
        script(x, -1, 1, 10000);
        script(x, -1, 1, 11200);
        script(x, 0, 1, 12000);
        script(x, 0, 1, 10300);
        script(x, 0, 1, 10010);
        script(x, 0, 1, 10001);
        script(x, -1, 2, 1000080602L);
        script(x, 1, 2, 1000080603L);
        script(x, -1, 3, 112008060320006L);
        script(x, -1, 2, 2000180200L);
        script(x, 0, 1, 20000);
        script(x, 0, 1, 20006);
        script(x, 0, 1, 20101);
        script(x, 0, 1, 21001);
        script(x, 1, 2, 2000120001L);
    }

    private static void promise27ExchangeAndJump() {
        StoodMinutes x = three();
        script(x, -1, 3, 302018020080101L);
        script(x, 0, 1, 30102);
        script(x, 0, 1, 30601);
        script(x, 0, 1, 30100);
        script(x, -1, 3, 305038050080302L);
        script(x, -1, 2, 4000280200L);
        script(x, 0, 1, 40001);
        script(x, 0, 1, 40003);
        script(x, 0, 1, 40102);
        script(x, 0, 1, 41002);
        script(x, 0, 1, 40029);
        script(x, 1, 2, 4000540005L);
        script(x, -1, 3, 400058050080402L);
    }

    private static void promise27MergeAndMinutes() {
        StoodMinutes x = three();
        script(x, -1, 3, 501008050480100L);
        script(x, 0, 1, 50000);
        script(x, 0, 1, 50200);
        script(x, 0, 1, 52000);
        script(x, 0, 1, 51010);
        script(x, 0, 1, 51001);
        script(x, -1, 2, 5100080504L);
        script(x, -1, 2, 6000270001L);
        script(x, 1, 2, 6000170001L);
        script(x, 0, 1, 60000);
        script(x, 0, 1, 60061);
        script(x, -1, 2, 6006070005L);
        script(x, 0, 1, 60101);
        script(x, 0, 1, 61001);
    }

    private static void promise27Questions() {
        StoodMinutes x = three();
        script(x, -1, 1, 70000);
        script(x, 0, 1, 70001);
        script(x, 0, 1, 70006);
        script(x, 0, 1, 70100);
        script(x, 0, 1, 71000);
        script(x, -1, 1, 80201);
        script(x, 0, 1, 80200);
        script(x, 0, 1, 80001);
        script(x, 0, 1, 80000);
        script(x, 0, 1, 80600);
        script(x, 0, 1, 89900);
        script(x, 1, 2, 2000270002L);
        script(x, -1, 1, 90000);
        script(x, 0, 1, 91000);
        x.come(0, 1);
        x.jump(6);
        script(x, 0, 1, 90003);
        script(x, -1, 1, 90004);
        script(x, -1, 1, 90999);
        script(x, 0, 1, 91999);
        script(x, 1, 2, 4000490005L);
        script(x, -1, 2, 4000490006L);
    }

    private static void promise27OtherGroups() {
        StoodMinutes x = three();
        script(x, 0, 1, 1);
        script(x, 0, 1, 9999);
        script(x, 2, 3, 900009000000000L);
        script(x, 1, 3, 900000000090000L);
    }

    private static void promise27ChangesNothing() {
        StoodMinutes x = three();
        String before = Seen.of(x);
        x.runScript(3, 100006001070001L);
        x.runScript(3, 510003020140002L);
        x.runScript(2, 2000199999L);
        due.compare("27: a script changes nothing", before, Seen.of(x));
        due.is("27: a script is no action", 7, x::undo);
    }

    private static void promise28Arguments() {
        StoodMinutes x = three();
        due.throwsArgument("28: simulate(1, 0)", () -> x.simulate(1, 0));
        due.throwsArgument("28: simulate(1, 100)", () -> x.simulate(1, 100));
        due.throwsArgument("28: simulate(1, -1)", () -> x.simulate(1, -1));
        due.throwsArgument("28: simulate(1, the least int)", () -> x.simulate(1, Integer.MIN_VALUE));
        for (long seed : new long[] {0, -1, Long.MIN_VALUE, Long.MAX_VALUE}) {
            due.compare("28: any seed", "true", String.valueOf(x.simulate(seed, 99) >= 0));
        }
    }

    /** The turns of a simulation, done by the object's own actions. */
    static int byHand(StoodMinutes x, long seed, int m) {
        long state = seed;
        int house = x.about(8);
        int served = 0;
        for (int i = 0; i < m; i++) {
            state = state * 6364136223846793005L + 1442695040888963407L;
            int r = (int) (state >>> 33);
            try {
                turn(x, r);
            } catch (RuntimeException e) {
                // left out
            }
            served += x.minutes(1);
        }
        return 1000 * served + Math.min(999, x.about(8) - house);
    }

    private static void turn(StoodMinutes x, int r) {
        int lines = x.about(1);
        int n = Math.max(1, x.about(2));
        int which = r % 16;
        if (which < 5) {
            x.come(r / 16 % lines, r / 64 % 3);
        } else if (which < 8) {
            x.exchange(r / 64 % n, r / 2048 % n);
        } else if (which < 10) {
            x.jump(r / 64 % n);
        } else if (which == 10) {
            x.go(r / 64 % n);
        } else if (which == 11) {
            x.merge(r / 16 % lines, r / 64 % lines);
        }
    }

    private static void promise28Simulate() {
        for (int seed = -40; seed < 40; seed++) {
            StoodMinutes x = seed % 2 == 0 ? three() : new StoodMinutes();
            if (seed % 4 == 0) {
                x.set(0, 10);
                x.set(1, 50);
                x.set(3, 5);
            }
            long start = seed * 1234567890123456789L;
            int m = 1 + Math.floorMod(seed * 7, 80);
            int simulated = x.simulate(start, m);
            due.is("28: simulate(" + start + ", " + m + ")", byHand(x, start, m), () -> simulated);
        }
        StoodMinutes rich = Seen.withPeople(12);
        rich.open(20);
        rich.merge(1, 0);
        rich.set(0, 10);
        rich.set(1, 50);
        due.is("28: what the house pays is told up to 999", 999, () -> rich.simulate(3, 60) % 1000);
        rich.minutes(10);
        rich.set(1, 0);
        due.is("28: the house paid", 600, () -> rich.about(8));
        due.is("28: what the house paid before does not count", 0, () -> rich.simulate(1, 1) % 1000);
    }

    private static void promise28ChangesNothing() {
        StoodMinutes x = three();
        String before = Seen.of(x);
        x.simulate(7, 99);
        due.compare("28: a simulation changes nothing", before, Seen.of(x));
        due.is("28: a simulation is no action", 7, x::undo);
        due.is("28: the same seed answers the same", x.simulate(5, 50), () -> x.simulate(5, 50));
    }
}
