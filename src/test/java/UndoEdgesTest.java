import java.util.function.Consumer;
import java.util.function.Supplier;

/** The document's terms: actions and undo, exceptions; promise 19; the 512 calls of an object. */
final class UndoEdgesTest extends Edges {
    private static final String STATE_IS = "The methods in the section \"actions\" change the state, which consists "
            + "of everything but the text and the save slots.";
    private static final String ACTION = "Each call of one of them that does not throw an exception is an action, "
            + "also if nothing becomes different (undo is none).";
    private static final String BEFORE = "Before each action, the state is remembered.";
    private static final String FOURTEEN = "At most 14 states are remembered; when one more is remembered, "
            + "the oldest one is forgotten.";
    private static final String NO_ACTIONS = "load and restore are not actions.";

    public static void main(String[] args) {
        run(UndoEdgesTest.class);
    }

    // ---- the state

    @Says(in = "Terms", words = STATE_IS)
    void state_undoKeepsTheText() {
        x.minutes(1);
        Seen.write(x, "W103");
        x.undo();
        is(-1, x::errorPosition);
        is(4, x::clearText);
    }

    @Says(in = "Terms", words = STATE_IS)
    void state_undoDoesNotBringBackAText() {
        Seen.write(x, "W103");
        x.minutes(1);
        x.clearText();
        x.undo();
        is(0, x::clearText);
    }

    @Says(in = "Terms", words = STATE_IS)
    void state_undoKeepsASlotThatWasFilledSince() {
        x.minutes(7);
        x.save(0);
        x.undo();
        is(0, () -> x.about(0));
        is(7, () -> x.restore(0));
    }

    @Says(in = "Terms", words = STATE_IS)
    void state_undoKeepsWhatASlotHoldsSince() {
        x.save(1);
        x.minutes(7);
        x.save(1);
        x.undo();
        is(7, () -> x.restore(1));
    }

    @Says(in = "Terms", words = STATE_IS)
    void state_restoreKeepsTheText() {
        x.save(0);
        Seen.write(x, "W1");
        x.restore(0);
        is(2, x::clearText);
    }

    // ---- actions

    /** The call is an action: it is remembered, and undo brings all back. */
    private void action(Supplier<StoodMinutes> made, Consumer<StoodMinutes> call) {
        StoodMinutes y = made.get();
        int before = remembered(made.get());
        call.accept(y);
        is(before, y::undo);
        same(Seen.of(made.get()), Seen.of(y));
        same(mayJump(made.get()), mayJump(y));
    }

    private static int remembered(StoodMinutes y) {
        int states = 0;
        try {
            for (; states < 20; states++) {
                y.undo();
            }
        } catch (IllegalStateException e) {
            // none is left
        }
        return states;
    }

    private static String mayJump(StoodMinutes y) {
        StringBuilder all = new StringBuilder();
        for (int p = 0; p < y.about(2); p++) {
            try {
                all.append(' ').append(y.jump(p));
                y.undo();
            } catch (IllegalStateException e) {
                all.append(" no");
            }
        }
        return all.toString();
    }

    /** People in two lines, who may exchange, jump, go and be merged. */
    private static StoodMinutes busy() {
        StoodMinutes y = day("W20320c00c10c20c01c11c21t2");
        y.jump(2);
        return y;
    }

    @Says(in = "Terms", words = {BEFORE, "Changes can be undone."})
    void before_open() {
        action(UndoEdgesTest::busy, y -> y.open(20));
    }

    @Says(in = "Terms", words = BEFORE)
    void before_come() {
        action(UndoEdgesTest::busy, y -> y.come(1, 2));
    }

    @Says(in = "Terms", words = BEFORE)
    void before_go() {
        action(UndoEdgesTest::busy, y -> y.go(0));
    }

    @Says(in = "Terms", words = BEFORE)
    void before_exchange() {
        action(UndoEdgesTest::busy, y -> y.exchange(4, 3));
    }

    @Says(in = "Terms", words = BEFORE)
    void before_jump() {
        action(UndoEdgesTest::busy, y -> y.jump(1));
        action(UndoEdgesTest::busy, y -> y.jump(5));
    }

    @Says(in = "Terms", words = BEFORE)
    void before_merge() {
        action(UndoEdgesTest::busy, y -> y.merge(1, 0));
        action(UndoEdgesTest::busy, y -> y.merge(0, 1));
    }

    @Says(in = "Terms", words = BEFORE)
    void before_minutes() {
        action(UndoEdgesTest::busy, y -> y.minutes(1));
        action(UndoEdgesTest::busy, y -> y.minutes(60));
    }

    @Says(in = "Terms", words = BEFORE)
    void before_set() {
        for (int what = 0; what <= 3; what++) {
            int w = what;
            action(UndoEdgesTest::busy, y -> y.set(w, w == 0 ? 10 : 1));
        }
    }

    @Says(in = "Terms", words = ACTION)
    void action_setToTheSameValue() {
        action(UndoEdgesTest::busy, y -> y.set(1, 5));
    }

    @Says(in = "Terms", words = ACTION)
    void action_mergeOfTwoEmptyLines() {
        action(() -> day("W20320"), y -> y.merge(0, 1));
    }

    @Says(in = "Terms", words = ACTION)
    void action_mergeOfAnEmptyLineIntoOneThatIsInOrder() {
        action(() -> day("W20320c00c00"), y -> y.merge(0, 1));
    }

    @Says(in = "Terms", words = ACTION)
    void action_undoIsNone() {
        x.minutes(1);
        x.minutes(2);
        is(1, x::undo);
        is(1, () -> x.about(0));
        is(0, x::undo);
        is(0, () -> x.about(0));
        refused(STATE, () -> {
            StoodMinutes y = new StoodMinutes();
            y.minutes(1);
            y.undo();
            return y;
        }, StoodMinutes::undo);
    }

    /** What stands before and behind the calls; none of them is an action. */
    private void noAction(Consumer<StoodMinutes> calls) {
        StoodMinutes y = lived();
        calls.accept(y);
        is(remembered(lived()), () -> remembered(y));
    }

    @Says(in = "Terms", words = {"Ahead of the calls `append`, `clearText`, `errorPosition`, `load` the interface "
            + "says: ---- text.", ACTION})
    void action_callsOfTheTextAreNone() {
        noAction(y -> {
            y.append('W');
            y.errorPosition();
            y.clearText();
        });
    }

    @Says(in = "Terms", words = "Ahead of the calls `about`, `line`, `at`, `person`, `setting` the interface says: "
            + "---- what there is.")
    void action_callsThatTellWhatThereIsAreNone() {
        noAction(Seen::of);
    }

    @Says(in = "Terms", words = "Ahead of the calls `open`, `come`, `go`, `exchange`, `jump`, `merge`, `minutes`, "
            + "`set`, `undo` the interface says: ---- actions.")
    void action_theEightOfTheSectionAreRemembered() {
        x.open(20);
        x.come(1, 0);
        x.come(1, 1);
        x.jump(1);
        x.minutes(2);
        x.exchange(0, 1);
        x.merge(1, 0);
        x.set(0, 99);
        x.go(0);
        for (int left = 8; left >= 0; left--) {
            is(left, x::undo);
        }
        same(Seen.of(new StoodMinutes()), Seen.of(x));
    }

    private static final String FORESIGHT = "Ahead of the calls `servedIn`, `willPay`, `gain`, `partner`, `bestLine`, "
            + "`longest`, `saved` the interface says: ---- what would be, if only minutes went by; these and all "
            + "following methods up to the save slots change nothing.";

    @Says(in = "Terms", words = FORESIGHT)
    void action_callsThatTellWhatWouldBeChangeNothing() {
        Supplier<StoodMinutes> asked = () -> {
            StoodMinutes y = lived();
            y.servedIn(5);
            y.willPay(999);
            y.gain(3, 5);
            y.partner(3);
            y.bestLine();
            y.longest();
            y.saved(0, 1);
            return y;
        };
        same(Whole.of(Edges::lived), Whole.of(asked));
    }

    @Says(in = "Terms", words = {FORESIGHT, "Ahead of the calls `runScript`, `simulate` the interface says: "
            + "---- scripts, simulations."})
    void action_scriptsAndSimulationsChangeNothing() {
        Supplier<StoodMinutes> asked = () -> {
            StoodMinutes y = lived();
            y.runScript(3, 100006001020003L);
            y.runScript(3, 305034000251000L);
            y.runScript(1, 99999L);
            y.simulate(1, 99);
            y.simulate(-1, 99);
            return y;
        };
        same(Whole.of(Edges::lived), Whole.of(asked));
    }

    @Says(in = "Terms", words = {NO_ACTIONS, "Ahead of the calls `save`, `restore` the interface says: "
            + "---- save slots."})
    void action_saveIsNone() {
        noAction(y -> y.save(0));
    }

    @Says(in = "Terms", words = NO_ACTIONS)
    void action_loadIsNone() {
        refused(STATE, () -> day("W103c00t1"), StoodMinutes::undo);
    }

    @Says(in = "Terms", words = NO_ACTIONS)
    void action_restoreIsNone() {
        refused(STATE, () -> {
            StoodMinutes y = lived();
            y.restore(1);
            return y;
        }, StoodMinutes::undo);
    }

    // ---- remembered states, and promise 19

    /** So many actions, of which each lets one minute more go by than the one before: 1, 2, 3 and so on. */
    private static StoodMinutes acted(int actions) {
        StoodMinutes y = new StoodMinutes();
        for (int i = 1; i <= actions; i++) {
            y.minutes(i);
        }
        return y;
    }

    /** The minutes that went by behind so many actions. */
    private static int goneBy(int actions) {
        return actions * (actions + 1) / 2;
    }

    /** Undo answers so many and less down to 0, and each brings back the state before; then none is left. */
    private void undoesAll(int actions, int remembered) {
        x = acted(actions);
        for (int i = 1; i <= remembered; i++) {
            int undone = i;
            is(remembered - undone, x::undo);
            is(goneBy(actions - undone), () -> x.about(0));
        }
        refused(STATE, () -> {
            StoodMinutes y = acted(actions);
            for (int i = 0; i < remembered; i++) {
                y.undo();
            }
            return y;
        }, StoodMinutes::undo);
    }

    @Says(in = "Terms", words = FOURTEEN)
    void fourteen_13actions() {
        undoesAll(13, 13);
    }

    @Says(in = "Terms", words = FOURTEEN)
    void fourteen_14actions() {
        undoesAll(14, 14);
    }

    @Says(in = "Terms", words = FOURTEEN)
    void fourteen_15actions() {
        undoesAll(15, 14);
    }

    @Says(in = "Terms", words = FOURTEEN)
    void fourteen_28actions() {
        undoesAll(28, 14);
    }

    @Says(in = "Terms", words = FOURTEEN)
    void fourteen_29actions() {
        undoesAll(29, 14);
    }

    @Says(in = "Terms", words = FOURTEEN)
    void fourteen_actionsBehindUndosTakeTheirPlaces() {
        x = acted(20);
        for (int i = 0; i < 5; i++) {
            x.undo();
        }
        // 9 are remembered; five more fill them up, a sixth one lets the oldest one be forgotten
        for (int i = 0; i < 6; i++) {
            x.minutes(60);
        }
        for (int left = 13; left >= 8; left--) {
            is(left, x::undo);
            int minutes = goneBy(15) + 60 * (left - 8);
            is(minutes, () -> x.about(0));
        }
        for (int left = 7; left >= 0; left--) {
            is(left, x::undo);
            int actions = left + 7;
            is(goneBy(actions), () -> x.about(0));
        }
        same("IllegalStateException", undoAgain());
    }

    private String undoAgain() {
        try {
            return "" + x.undo();
        } catch (IllegalStateException e) {
            return "IllegalStateException";
        }
    }

    @Says(in = "19", words = {"Takes back the last action that is remembered.",
        "Returns how many states are still remembered."})
    void promise19_oneAction() {
        x.open(7);
        is(0, x::undo);
        is(1, () -> x.about(1));
    }

    @Says(in = "19", words = "Returns how many states are still remembered.")
    void promise19_fourteenActions_andOneMore() {
        x = acted(14);
        is(13, x::undo);
        x = acted(15);
        is(13, x::undo);
    }

    private static final String NOTHING = "Throws `IllegalStateException` if none is remembered";

    @Says(in = "19", words = NOTHING)
    void promise19_ofANewObject() {
        refused(STATE, StoodMinutes::new, StoodMinutes::undo);
    }

    @Says(in = "19", words = NOTHING)
    void promise19_behindTheLastUndo() {
        refused(STATE, () -> {
            StoodMinutes y = Seen.withPeople(1);
            y.undo();
            return y;
        }, StoodMinutes::undo);
    }

    @Says(in = "19", words = NOTHING)
    void promise19_behindALoad() {
        refused(STATE, () -> {
            StoodMinutes y = lived();
            y.clearText();
            Seen.write(y, "W103t1");
            y.load();
            return y;
        }, StoodMinutes::undo);
    }

    @Says(in = "19", words = NOTHING)
    void promise19_behindARestore() {
        refused(STATE, () -> {
            StoodMinutes y = lived();
            y.restore(1);
            return y;
        }, StoodMinutes::undo);
    }

    @Says(in = "19", words = NOTHING)
    void promise19_whenOnlyACallWasRefused() {
        refused(STATE, () -> {
            StoodMinutes y = new StoodMinutes();
            try {
                y.open(21);
            } catch (IllegalArgumentException e) {
                // due
            }
            return y;
        }, StoodMinutes::undo);
    }

    // ---- the calls of an object

    @Says(in = "What it is", words = "An object is used for at most 512 calls after it has been made; "
            + "what later calls answer is free.")
    void calls_the512thAnswersAsTheFirst() {
        for (int call = 1; call < 512; call++) {
            x.minutes(60);
        }
        is(511 * 60, () -> x.about(0));
    }

    @Says(in = "What it is", words = "An object is used for at most 512 calls after it has been made; "
            + "what later calls answer is free.")
    void calls_the512thMayBeAnAction() {
        for (int call = 1; call < 512; call++) {
            x.set(0, 10 + call % 90);
        }
        is(10 + 511 % 90, () -> x.set(0, 99));
    }
}
