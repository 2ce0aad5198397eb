/** The promises 29 and 30: the save slots. */
final class SlotEdgesTest extends Edges {
    private static final int[] FAR = {Integer.MIN_VALUE, Integer.MAX_VALUE};
    private static final String SAVE = "Stores the present state in a save slot.";
    private static final String RESTORE = "Replaces the state by the one in a save slot, and forgets all remembered "
            + "states. The save slot keeps it.";
    private static final String SLOT = "`slot`: 0 or 1";
    private static final String NO_SLOT = "Throws `IndexOutOfBoundsException` if there is no such save slot";
    private static final String NOTHING =
            "Throws `IllegalStateException` if nothing has been saved in it since the last load";

    public static void main(String[] args) {
        run(SlotEdgesTest.class);
    }

    // ---- promise 29

    @Says(in = "29", words = {SAVE, SLOT, "Returns the minutes that went by."})
    void promise29_slot0() {
        is(0, () -> x.save(0));
        is(0, () -> x.restore(0));
    }

    @Says(in = "29", words = {SLOT, "Returns the minutes that went by."})
    void promise29_slot1() {
        x.minutes(60);
        is(60, () -> x.save(1));
        is(60, () -> x.restore(1));
    }

    @Says(in = "29", words = SLOT)
    void promise29_eachSlotHasItsOwnState() {
        x.save(0);
        x.minutes(5);
        x.save(1);
        x.minutes(5);
        is(0, () -> x.restore(0));
        is(5, () -> x.restore(1));
    }

    @Says(in = "29", words = SAVE)
    void promise29_anotherStateTakesThePlaceOfTheOneBefore() {
        x.save(0);
        x.minutes(5);
        x.save(0);
        x.minutes(5);
        is(5, () -> x.restore(0));
    }

    @Says(in = "29", words = SAVE)
    void promise29_whatIsDoneBehindItIsNotInTheSlot() {
        x = day("W3202020" + "c00".repeat(12) + "c11".repeat(12) + "c22".repeat(6));
        String saved = Seen.of(x);
        StoodMinutes y = thirtyThenAll();
        is(0, () -> y.restore(0));
        same(saved, Seen.of(y));
    }

    /** A full row of people and lines is saved; then all that there is of it becomes another. */
    private static StoodMinutes thirtyThenAll() {
        StoodMinutes y = day("W3202020" + "c00".repeat(12) + "c11".repeat(12) + "c22".repeat(6));
        y.save(0);
        for (int what = 0; what <= 3; what++) {
            y.set(what, what == 0 ? 10 : 1);
        }
        y.minutes(11);
        y.exchange(11, 0);
        y.jump(23);
        y.jump(29);
        y.go(1);
        y.minutes(60);
        y.merge(0, 2);
        return y;
    }

    @Says(in = "29", words = NO_SLOT)
    void promise29_slot_minus1() {
        refused(INDEX, Edges::lived, y -> y.save(-1));
    }

    @Says(in = "29", words = NO_SLOT)
    void promise29_slot_2() {
        refused(INDEX, Edges::lived, y -> y.save(2));
    }

    @Says(in = "29", words = NO_SLOT)
    void promise29_slot_farOutOfRange() {
        for (int slot : FAR) {
            refused(INDEX, Edges::lived, y -> y.save(slot));
        }
    }

    // ---- promise 30

    @Says(in = "30", words = {RESTORE, SLOT, "Returns the minutes that went by, then."})
    void promise30_slot0_ofANewObject() {
        x.save(0);
        x.open(4);
        x.come(1, 0);
        x.minutes(9);
        is(0, () -> x.restore(0));
        same(Seen.of(new StoodMinutes()), Seen.of(x));
    }

    @Says(in = "30", words = {RESTORE, SLOT, "Returns the minutes that went by, then."})
    void promise30_slot1_ofALaterState() {
        x.minutes(60);
        x.save(1);
        x.undo();
        is(0, () -> x.about(0));
        is(60, () -> x.restore(1));
        is(60, () -> x.about(0));
    }

    @Says(in = "30", words = RESTORE)
    void promise30_fewerPeopleAndLinesThanNow() {
        x = day("W103c00");
        x.save(0);
        x.open(1);
        x.come(1, 2);
        x.restore(0);
        refused(INDEX, () -> {
            StoodMinutes y = day("W103c00");
            y.save(0);
            y.open(1);
            y.come(1, 2);
            y.restore(0);
            return y;
        }, y -> y.person(1, 0));
        is(1, () -> x.about(1));
        is(1, () -> x.come(0, 1));
        is(1, () -> x.person(1, 0));
        is(1, () -> x.open(9));
        row(1);
    }

    @Says(in = "30", words = RESTORE)
    void promise30_forgetsAllRememberedStates() {
        for (int actions : new int[] {0, 1, 14, 15}) {
            refused(STATE, () -> {
                StoodMinutes y = new StoodMinutes();
                y.save(1);
                for (int i = 0; i < actions; i++) {
                    y.minutes(1);
                }
                y.restore(1);
                return y;
            }, StoodMinutes::undo);
        }
    }

    @Says(in = "30", words = RESTORE)
    void promise30_actionsBehindItAreRemembered() {
        x.save(1);
        x.minutes(1);
        x.restore(1);
        x.minutes(2);
        x.minutes(3);
        is(1, x::undo);
        is(2, () -> x.about(0));
        is(0, x::undo);
        is(0, () -> x.about(0));
    }

    @Says(in = "30", words = RESTORE)
    void promise30_theSlotKeepsIt() {
        x.minutes(4);
        x.save(0);
        for (int i = 0; i < 3; i++) {
            x.minutes(60);
            x.come(0, 0);
            is(4, () -> x.restore(0));
            is(0, () -> x.about(2));
        }
    }

    @Says(in = "30", words = RESTORE)
    void promise30_theOtherSlotKeepsItsOwn() {
        x.save(0);
        x.minutes(4);
        x.save(1);
        x.restore(0);
        x.minutes(9);
        x.restore(0);
        is(4, () -> x.restore(1));
    }

    @Says(in = "30", words = RESTORE)
    void promise30_whoJumpedIsRestored() {
        refused(STATE, () -> {
            StoodMinutes y = day("W120c00c00c00c10j03t4");
            y.save(0);
            y.minutes(1);
            y.restore(0);
            return y;
        }, y -> y.jump(3));
        x = day("W120c00c00c00c10");
        x.save(0);
        x.jump(3);
        x.restore(0);
        is(2, () -> x.jump(3));
    }

    @Says(in = "30", words = RESTORE)
    void promise30_whoCameInAnotherMinuteIsRestored() {
        x.minutes(5);
        x.come(0, 1);
        x.save(0);
        x.undo();
        x.minutes(3);
        x.come(0, 2);
        is(8, () -> x.person(0, 7));
        x.restore(0);
        is(5, () -> x.person(0, 7));
        is(1, () -> x.person(0, 0));
    }

    @Says(in = "30", words = NO_SLOT)
    void promise30_slot_minus1() {
        refused(INDEX, Edges::lived, y -> y.restore(-1));
    }

    @Says(in = "30", words = NO_SLOT)
    void promise30_slot_2() {
        refused(INDEX, Edges::lived, y -> y.restore(2));
    }

    @Says(in = "30", words = NO_SLOT)
    void promise30_slot_farOutOfRange() {
        for (int slot : FAR) {
            refused(INDEX, Edges::lived, y -> y.restore(slot));
        }
    }

    @Says(in = "30", words = NOTHING)
    void promise30_aSlotThatWasNeverFilled() {
        refused(STATE, StoodMinutes::new, y -> y.restore(0));
        refused(STATE, StoodMinutes::new, y -> y.restore(1));
    }

    @Says(in = "30", words = NOTHING)
    void promise30_onlyTheOtherSlotWasFilled() {
        refused(STATE, () -> {
            StoodMinutes y = new StoodMinutes();
            y.save(0);
            return y;
        }, y -> y.restore(1));
        refused(STATE, () -> {
            StoodMinutes y = new StoodMinutes();
            y.save(1);
            return y;
        }, y -> y.restore(0));
    }

    /** Both slots are filled, and then a day is loaded. */
    private static StoodMinutes loaded() {
        StoodMinutes y = lived();
        y.save(0);
        y.save(1);
        y.clearText();
        Seen.write(y, "W103t5");
        y.load();
        return y;
    }

    @Says(in = "30", words = NOTHING)
    void promise30_filledBeforeTheLastLoad() {
        refused(STATE, SlotEdgesTest::loaded, y -> y.restore(0));
        refused(STATE, SlotEdgesTest::loaded, y -> y.restore(1));
    }

    @Says(in = "30", words = NOTHING)
    void promise30_filledBehindTheLastLoad() {
        x = loaded();
        x.save(1);
        x.minutes(1);
        is(5, () -> x.restore(1));
        refused(STATE, () -> {
            StoodMinutes y = loaded();
            y.save(1);
            return y;
        }, y -> y.restore(0));
    }

    @Says(in = "30", words = NOTHING)
    void promise30_aLoadThatWasRefusedEmptiesNoSlot() {
        x.save(0);
        try {
            x.load();
        } catch (IllegalStateException e) {
            // due: the empty text is not a day
        }
        is(0, () -> x.restore(0));
    }
}
