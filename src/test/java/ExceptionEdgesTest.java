/** The document's terms: exceptions, and which one is due where two are; the constants. */
final class ExceptionEdgesTest extends Edges {
    private static final String NO_INDEX = "IndexOutOfBoundsException means that a person or a line does not exist, "
            + "or that a save slot is not 0 or 1.";
    private static final String NO_ARGUMENT =
            "IllegalArgumentException means that another argument is out of its range.";
    private static final String NO_STATE = "IllegalStateException means what the method says.";
    private static final String FIRST =
            "If several exceptions apply to a call, the one that its description names first is thrown.";
    private static final String NOTHING = "A call that throws an exception changes nothing.";

    public static void main(String[] args) {
        run(ExceptionEdgesTest.class);
    }

    /** An object all of whose rows are full: the text, the people, the lines, the remembered states, the slots. */
    private static StoodMinutes full() {
        StoodMinutes y = day("W3202020" + "c00".repeat(12) + "c01".repeat(12) + "c02".repeat(6));
        Seen.write(y, "  ");
        y.save(0);
        for (int i = 1; i <= 14; i++) {
            y.minutes(1);
        }
        y.save(1);
        return y;
    }

    // ---- what they mean

    @Says(in = "Terms", words = NO_INDEX)
    void index_aPersonThatIsNotThere() {
        refused(INDEX, Edges::lived, y -> y.person(7, 0));
        refused(INDEX, Edges::lived, y -> y.go(7));
        refused(INDEX, Edges::lived, y -> y.exchange(7, 0));
        refused(INDEX, Edges::lived, y -> y.exchange(3, 7));
        refused(INDEX, Edges::lived, y -> y.jump(7));
        refused(INDEX, Edges::lived, y -> y.servedIn(7));
        refused(INDEX, Edges::lived, y -> y.gain(7, 0));
        refused(INDEX, Edges::lived, y -> y.gain(3, 7));
        refused(INDEX, Edges::lived, y -> y.partner(7));
    }

    @Says(in = "Terms", words = NO_INDEX)
    void index_aLineThatIsNotThere() {
        refused(INDEX, Edges::lived, y -> y.line(2, 0));
        refused(INDEX, Edges::lived, y -> y.at(2, 0));
        refused(INDEX, Edges::lived, y -> y.come(2, 0));
        refused(INDEX, Edges::lived, y -> y.merge(2, 0));
        refused(INDEX, Edges::lived, y -> y.merge(0, 2));
        refused(INDEX, Edges::lived, y -> y.saved(2, 0));
        refused(INDEX, Edges::lived, y -> y.saved(0, 2));
    }

    @Says(in = "Terms", words = NO_INDEX)
    void index_aSlotThatIsNot0Or1() {
        refused(INDEX, Edges::lived, y -> y.save(-1));
        refused(INDEX, Edges::lived, y -> y.save(2));
        refused(INDEX, Edges::lived, y -> y.restore(-1));
        refused(INDEX, Edges::lived, y -> y.restore(2));
    }

    @Says(in = "Terms", words = NO_ARGUMENT)
    void argument_outOfItsRange() {
        refused(ARGUMENT, Edges::lived, y -> y.append(256));
        refused(ARGUMENT, Edges::lived, y -> y.about(10));
        refused(ARGUMENT, Edges::lived, y -> y.line(0, 5));
        refused(ARGUMENT, Edges::lived, y -> y.at(0, -1));
        refused(ARGUMENT, Edges::lived, y -> y.person(0, 9));
        refused(ARGUMENT, Edges::lived, y -> y.setting(4));
        refused(ARGUMENT, Edges::lived, y -> y.open(21));
        refused(ARGUMENT, Edges::lived, y -> y.come(0, 3));
        refused(ARGUMENT, Edges::lived, y -> y.merge(0, 0));
        refused(ARGUMENT, Edges::lived, y -> y.minutes(61));
        refused(ARGUMENT, Edges::lived, y -> y.set(0, 100));
        refused(ARGUMENT, Edges::lived, y -> y.willPay(1000));
        refused(ARGUMENT, Edges::lived, y -> y.saved(0, 0));
        refused(ARGUMENT, Edges::lived, y -> y.runScript(4, 0));
        refused(ARGUMENT, Edges::lived, y -> y.simulate(0, 100));
    }

    @Says(in = "Terms", words = NO_STATE)
    void state_asTheMethodSays() {
        refused(STATE, ExceptionEdgesTest::full, y -> y.append('W'));
        refused(STATE, ExceptionEdgesTest::full, StoodMinutes::load);
        refused(STATE, ExceptionEdgesTest::full, y -> y.open(1));
        refused(STATE, ExceptionEdgesTest::full, y -> y.come(2, 0));
        refused(STATE, ExceptionEdgesTest::full, y -> y.jump(1));
        refused(STATE, ExceptionEdgesTest::full, y -> y.exchange(0, 1));
        refused(STATE, ExceptionEdgesTest::full, y -> y.gain(0, 1));
        refused(STATE, ExceptionEdgesTest::full, y -> y.merge(0, 1));
        refused(STATE, ExceptionEdgesTest::full, y -> y.saved(0, 1));
        refused(STATE, Edges::lived, y -> y.go(4));
        refused(STATE, Edges::lived, y -> y.servedIn(4));
        refused(STATE, Edges::lived, y -> y.restore(0));
        refused(STATE, StoodMinutes::new, StoodMinutes::undo);
    }

    // ---- where two are due

    @Says(in = "Terms", words = FIRST)
    void first_append_aWrongCharacterBehindAFullText() {
        refused(ARGUMENT, ExceptionEdgesTest::full, y -> y.append(-1));
        refused(ARGUMENT, ExceptionEdgesTest::full, y -> y.append(256));
    }

    @Says(in = "Terms", words = FIRST)
    void first_line_noLineAndNoNumber() {
        refused(INDEX, Edges::lived, y -> y.line(2, 5));
        refused(INDEX, Edges::lived, y -> y.line(-1, -1));
    }

    @Says(in = "Terms", words = FIRST)
    void first_at_noLineAndNoPlace() {
        refused(INDEX, Edges::lived, y -> y.at(2, -1));
        refused(INDEX, Edges::lived, y -> y.at(-1, -1));
    }

    @Says(in = "Terms", words = FIRST)
    void first_person_noPersonAndNoNumber() {
        refused(INDEX, Edges::lived, y -> y.person(7, 9));
        refused(INDEX, Edges::lived, y -> y.person(-1, -1));
        refused(INDEX, StoodMinutes::new, y -> y.person(0, 9));
    }

    @Says(in = "Terms", words = FIRST)
    void first_open_noPaceAndThreeLines() {
        refused(ARGUMENT, ExceptionEdgesTest::full, y -> y.open(0));
        refused(ARGUMENT, ExceptionEdgesTest::full, y -> y.open(21));
    }

    @Says(in = "Terms", words = FIRST)
    void first_come_noLineAndNoKind() {
        refused(INDEX, Edges::lived, y -> y.come(2, 3));
        refused(INDEX, Edges::lived, y -> y.come(-1, -1));
    }

    @Says(in = "Terms", words = FIRST)
    void first_come_noLineAnd30came() {
        refused(INDEX, ExceptionEdgesTest::full, y -> y.come(3, 0));
        refused(INDEX, ExceptionEdgesTest::full, y -> y.come(3, 3));
    }

    @Says(in = "Terms", words = FIRST)
    void first_come_noKindAnd30came() {
        refused(ARGUMENT, ExceptionEdgesTest::full, y -> y.come(2, 3));
        refused(ARGUMENT, ExceptionEdgesTest::full, y -> y.come(2, -1));
    }

    @Says(in = "Terms", words = FIRST)
    void first_come_noKindAnd12stand() {
        refused(ARGUMENT, () -> Seen.withPeople(12), y -> y.come(0, 3));
    }

    @Says(in = "Terms", words = FIRST)
    void first_exchange_noPersonAndOneWhoStandsNoLonger() {
        refused(INDEX, Edges::lived, y -> y.exchange(4, 7));
        refused(INDEX, Edges::lived, y -> y.exchange(7, 4));
        refused(INDEX, Edges::lived, y -> y.exchange(-1, -1));
    }

    @Says(in = "Terms", words = FIRST)
    void first_gain_noPersonAndOneWhoStandsNoLonger() {
        refused(INDEX, Edges::lived, y -> y.gain(4, 7));
        refused(INDEX, Edges::lived, y -> y.gain(7, 4));
        refused(INDEX, Edges::lived, y -> y.gain(-1, -1));
    }

    @Says(in = "Terms", words = FIRST)
    void first_merge_noLineAndBothTheSame() {
        refused(INDEX, Edges::lived, y -> y.merge(2, 2));
        refused(INDEX, Edges::lived, y -> y.merge(-1, -1));
    }

    @Says(in = "Terms", words = FIRST)
    void first_merge_noLineAndAFullOne() {
        refused(INDEX, ExceptionEdgesTest::full, y -> y.merge(0, 3));
        refused(INDEX, ExceptionEdgesTest::full, y -> y.merge(3, 0));
    }

    @Says(in = "Terms", words = FIRST)
    void first_merge_bothTheSameAndTooMany() {
        refused(ARGUMENT, ExceptionEdgesTest::full, y -> y.merge(0, 0));
        refused(ARGUMENT, () -> Seen.withPeople(7), y -> y.merge(0, 0));
    }

    @Says(in = "Terms", words = FIRST)
    void first_saved_noLineAndBothTheSame() {
        refused(INDEX, Edges::lived, y -> y.saved(2, 2));
        refused(INDEX, Edges::lived, y -> y.saved(-1, -1));
    }

    @Says(in = "Terms", words = FIRST)
    void first_saved_noLineAndAFullOne() {
        refused(INDEX, ExceptionEdgesTest::full, y -> y.saved(0, 3));
        refused(INDEX, ExceptionEdgesTest::full, y -> y.saved(3, 0));
    }

    @Says(in = "Terms", words = FIRST)
    void first_saved_bothTheSameAndTooMany() {
        refused(ARGUMENT, ExceptionEdgesTest::full, y -> y.saved(0, 0));
        refused(ARGUMENT, () -> Seen.withPeople(7), y -> y.saved(0, 0));
    }

    @Says(in = "Terms", words = FIRST)
    void first_restore_noSlotAndNothingSaved() {
        refused(INDEX, StoodMinutes::new, y -> y.restore(2));
        refused(INDEX, StoodMinutes::new, y -> y.restore(-1));
    }

    // ---- nothing is changed

    @Says(in = "Terms", words = NOTHING)
    void nothing_noneOfFourteenStatesIsForgotten() {
        refused(STATE, ExceptionEdgesTest::full, y -> y.open(1));
        refused(ARGUMENT, ExceptionEdgesTest::full, y -> y.minutes(0));
        refused(ARGUMENT, ExceptionEdgesTest::full, y -> y.set(0, 9));
        refused(INDEX, ExceptionEdgesTest::full, y -> y.go(30));
    }

    @Says(in = "Terms", words = NOTHING)
    void nothing_aSlotThatIsFilledKeepsItsState() {
        refused(INDEX, ExceptionEdgesTest::full, y -> y.save(2));
        refused(INDEX, ExceptionEdgesTest::full, y -> y.save(-1));
        refused(INDEX, ExceptionEdgesTest::full, y -> y.restore(2));
    }

    @Says(in = "Terms", words = NOTHING)
    void nothing_aLoadThatIsRefusedKeepsAll() {
        refused(STATE, ExceptionEdgesTest::full, StoodMinutes::load);
        refused(STATE, Edges::lived, StoodMinutes::load);
    }

    @Says(in = "Terms", words = NOTHING)
    void nothing_aFullTextStaysAsItIs() {
        refused(STATE, () -> day("W3202020" + "c00".repeat(30) + "t1"), y -> y.append('c'));
        refused(ARGUMENT, () -> day("W3202020" + "c00".repeat(30) + "t1"), y -> y.append(256));
    }

    // ---- constants

    @Says(in = "Terms", words = "The constants: `NONE = -1`: There is no such result.")
    @Says(in = "The public face", words = "public static final int NONE = -1;")
    void none_isMinus1() {
        is(-1, () -> StoodMinutes.NONE);
        is(StoodMinutes.NONE, x::longest);
        is(StoodMinutes.NONE, () -> x.at(0, 0));
    }
}
