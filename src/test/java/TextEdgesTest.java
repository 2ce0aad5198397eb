/** The document's terms: the text; and the promises 1 to 5. */
final class TextEdgesTest extends Edges {
    private static final String BUFFER = "The object has a text buffer of at most 100 characters.";
    private static final String LINES = "A day as a text is W and a digit for the lines (1 to 3), "
            + "two digits for the pace of each (01 to 20), and then any number of commands:";
    private static final String COME = "c, a digit for the kind (0 to 2), and one for a line (0 to 2, whether it "
            + "is there or not): someone comes;";
    private static final String GO = "g and two digits for a person (00 to 29): one goes away;";
    private static final String EXCHANGE = "x and twice two digits for persons: the first one goes forward and "
            + "exchanges with the second one;";
    private static final String JUMP = "j and two digits: a jump;";
    private static final String MINUTES = "t and a digit (1 to 9): so many minutes.";
    private static final String LEFT_OUT = "Commands that would throw an exception are left out.";
    private static final String BLANKS = "There are no blanks.";
    private static final String POSITION = "The error position is the index of the first character that these "
            + "rules do not allow at its place (a digit is not allowed if no number that is allowed begins with "
            + "it and those before it);";
    private static final String TOO_SOON = "if the text ends too soon, it is the length of the text.";
    private static final String DIGITS = "0123456789";
    private static final String LETTERS = "cgxjt";

    public static void main(String[] args) {
        run(TextEdgesTest.class);
    }

    private static StoodMinutes written(String text) {
        StoodMinutes y = new StoodMinutes();
        Seen.write(y, text);
        return y;
    }

    private void error(int position, String text) {
        StoodMinutes y = written(text);
        is(position, y::errorPosition);
    }

    /** Of all 256 characters, these alone may stand behind this text; the text goes on behind them. */
    private void next(String text, String allowed) {
        next(text, allowed, text.length() + 1);
    }

    /** Of all 256 characters, these alone may stand behind this text; then it is a day. */
    private void last(String text, String allowed) {
        next(text, allowed, -1);
    }

    private void next(String text, String allowed, int positionThen) {
        for (int c = 0; c <= 255; c++) {
            error(allowed.indexOf(c) >= 0 ? positionThen : text.length(), text + (char) c);
        }
    }

    /** Behind this text stands a person, and then it is a day, or it goes on. */
    private void person(String text, boolean thenADay) {
        next(text, "012");
        for (char first : "012".toCharArray()) {
            next(text + first, DIGITS, thenADay ? -1 : text.length() + 2);
        }
    }

    // ---- the buffer

    @Says(in = "Terms", words = BUFFER)
    void buffer_the100thCharacter() {
        x = written("W".repeat(99));
        is(100, () -> x.append('W'));
    }

    @Says(in = "Terms", words = BUFFER)
    void buffer_the101stCharacter() {
        refused(STATE, () -> written("W".repeat(100)), y -> y.append('W'));
    }

    // ---- a day, place by place

    @Says(in = "Terms", words = LINES)
    void lines_aDayBeginsWithW() {
        next("", "W");
    }

    @Says(in = "Terms", words = LINES)
    void lines_1to3() {
        next("W", "123");
    }

    @Says(in = "Terms", words = LINES)
    void lines_thePaceOfOneBeginsWith0to2() {
        next("W1", "012");
    }

    @Says(in = "Terms", words = LINES)
    void lines_pace01to09_and00isNone() {
        last("W10", "123456789");
    }

    @Says(in = "Terms", words = LINES)
    void lines_pace10to19() {
        last("W11", DIGITS);
    }

    @Says(in = "Terms", words = LINES)
    void lines_pace20_and21isNone() {
        last("W12", "0");
    }

    @Says(in = "Terms", words = LINES)
    void lines_twoPaces() {
        next("W2", "012");
        next("W20", "123456789");
        next("W22", "0");
        next("W220", "012");
        last("W2200", "123456789");
        last("W2201", DIGITS);
        last("W2202", "0");
    }

    @Says(in = "Terms", words = LINES)
    void lines_threePaces() {
        next("W3", "012");
        next("W31", DIGITS);
        next("W301", "012");
        next("W3012", "0");
        next("W30120", "012");
        last("W301200", "123456789");
        last("W301201", DIGITS);
        last("W301202", "0");
    }

    @Says(in = "Terms", words = LINES)
    void lines_asManyPacesAsLines() {
        error(-1, "W101");
        error(-1, "W20120");
        error(-1, "W3012009");
        error(4, "W10120");
        error(6, "W2012009");
        error(8, "W301200903");
    }

    @Says(in = "Terms", words = LINES)
    void lines_eachHasThePaceThatStandsThere() {
        x = day("W3012009");
        is(3, () -> x.about(1));
        is(1, () -> x.line(0, 0));
        is(20, () -> x.line(1, 0));
        is(9, () -> x.line(2, 0));
    }

    @Says(in = "Terms", words = LINES)
    void lines_noCommand() {
        x = written("W103");
        is(-1, x::errorPosition);
        is(0, x::load);
        is(0, () -> x.about(2));
    }

    @Says(in = "Terms", words = LINES)
    void lines_asManyCommandsAsTheTextHolds() {
        x = written("W103" + "t1".repeat(48));
        is(-1, x::errorPosition);
        is(0, x::load);
        is(48, () -> x.about(0));
    }

    @Says(in = "Terms", words = LINES)
    void lines_aCommandBeginsWithItsLetter() {
        next("W103", LETTERS);
        next("W103c00", LETTERS);
        next("W103g00", LETTERS);
        next("W103x0000", LETTERS);
        next("W103j00", LETTERS);
        next("W103t1", LETTERS);
    }

    @Says(in = "Terms", words = COME)
    void come_kind0to2() {
        next("W103c", "012");
    }

    @Says(in = "Terms", words = COME)
    void come_line0to2_whetherItIsThereOrNot() {
        last("W103c0", "012");
        last("W103c2", "012");
        last("W3030303c1", "012");
    }

    @Says(in = "Terms", words = COME)
    void come_theKindStandsBeforeTheLine() {
        x = day("W3030303c20c12");
        is(2, () -> x.person(0, 0));
        is(0, () -> x.person(0, 1));
        is(1, () -> x.person(1, 0));
        is(2, () -> x.person(1, 1));
    }

    @Says(in = "Terms", words = GO)
    void go_person00to29() {
        person("W103g", true);
    }

    @Says(in = "Terms", words = GO)
    void go_ofTheFirstAndTheLastPerson() {
        x = day("W101" + "c00t1".repeat(4) + "c00g00g04");
        is(1, () -> x.person(0, 6));
        is(2, () -> x.person(4, 6));
    }

    @Says(in = "Terms", words = EXCHANGE)
    void exchange_persons00to29() {
        person("W103x", false);
        person("W103x00", true);
        person("W103x29", true);
    }

    @Says(in = "Terms", words = EXCHANGE)
    void exchange_theFirstOneGoesForward() {
        x = day("W120c00c00t2x0100");
        row(0, 1, 0);
        is(-2, () -> x.person(1, 4));
    }

    @Says(in = "Terms", words = JUMP)
    void jump_person00to29() {
        person("W103j", true);
    }

    @Says(in = "Terms", words = JUMP)
    void jump_ofTheLastOne() {
        x = day("W120c00c00c00c10j03");
        row(0, 0, 3, 1, 2);
    }

    @Says(in = "Terms", words = MINUTES)
    void minutes_1to9() {
        last("W103t", "123456789");
    }

    @Says(in = "Terms", words = MINUTES)
    void minutes_asManyAsTheDigit() {
        x = day("W103t1");
        is(1, () -> x.about(0));
        x = day("W103t9");
        is(9, () -> x.about(0));
    }

    // ---- commands that are left out

    private void leftOut(int count, String text) {
        StoodMinutes y = written(text);
        is(count, y::load);
    }

    @Says(in = "Terms", words = LEFT_OUT)
    void leftOut_none() {
        leftOut(0, "W103c00t1");
    }

    @Says(in = "Terms", words = LEFT_OUT)
    void leftOut_comeToALineThatIsNotThere() {
        leftOut(1, "W103c01");
        leftOut(1, "W20303c02");
        leftOut(0, "W20303c01");
        leftOut(0, "W3030303c02");
    }

    @Says(in = "Terms", words = LEFT_OUT)
    void leftOut_comeToAFullLine() {
        leftOut(0, "W103" + "c00".repeat(12));
        leftOut(1, "W103" + "c00".repeat(13));
    }

    @Says(in = "Terms", words = LEFT_OUT)
    void leftOut_noneOf30WhoCome() {
        leftOut(0, "W3010101" + "c00".repeat(12) + "c01".repeat(12) + "c02".repeat(6));
    }

    @Says(in = "Terms", words = LEFT_OUT)
    void leftOut_goOfOneWhoIsNotThere_orStandsNoLonger() {
        leftOut(1, "W103g00");
        leftOut(1, "W103c00g01");
        leftOut(1, "W103c00g00g00");
        leftOut(1, "W101c00t1g00");
        leftOut(1, "W103c00g29");
    }

    @Says(in = "Terms", words = LEFT_OUT)
    void leftOut_exchanges() {
        leftOut(1, "W103c00t9x0001");
        leftOut(1, "W120c00c00t2x0001");
        leftOut(1, "W120c00c00t2x0000");
        leftOut(1, "W120c00c00t1x0100");
        leftOut(0, "W120c00c00t2x0100");
        leftOut(1, "W22020c00c00c01t2x0201");
    }

    @Says(in = "Terms", words = LEFT_OUT)
    void leftOut_jumps() {
        leftOut(1, "W120j00");
        leftOut(1, "W120c10j00");
        leftOut(1, "W120c00c00j01");
        leftOut(0, "W120c00c10j01");
        leftOut(1, "W120c00c00c00c10j03t4j03");
        leftOut(0, "W120c00c00c00c10j03t5j03");
    }

    @Says(in = "Terms", words = LEFT_OUT)
    void leftOut_theOthersAreDone() {
        x = day("W120c01c00g05c20x0001j01t2");
        is(2, () -> x.about(0));
        row(0, 1, 0);
    }

    // ---- blanks, and the error position

    @Says(in = "Terms", words = BLANKS)
    void blanks_atNoPlace() {
        String day = "W20320c00g00x0000j00t1";
        for (int i = 0; i <= day.length(); i++) {
            error(i, day.substring(0, i) + " " + day.substring(i));
        }
    }

    @Says(in = "Terms", words = POSITION)
    void position_ofTheFirstOfTwoWrongCharacters() {
        error(0, "w1O3");
        error(2, "W1O3o");
        error(5, "W103c?c?");
    }

    @Says(in = "Terms", words = POSITION)
    void position_index0() {
        error(0, "1");
        error(0, "c00");
        error(0, "VW101");
    }

    @Says(in = "Terms", words = POSITION)
    void position_index99ofAFullText() {
        error(99, "W101" + "t1".repeat(47) + "t0");
        error(-1, "W101" + "t1".repeat(47) + "t9");
        error(99, "W20101" + "c00".repeat(30) + "c00z");
    }

    @Says(in = "Terms", words = POSITION)
    void position_ofADigitThatBeginsNoNumber() {
        error(2, "W130");
        error(4, "W2033");
        error(5, "W101g30");
        error(5, "W101j30");
        error(5, "W101x3000");
        error(7, "W101x0030");
    }

    @Says(in = "Terms", words = POSITION)
    void position_ofADigitThatEndsNoNumber() {
        error(3, "W100");
        error(3, "W121");
        error(3, "W129");
        error(5, "W20100");
        error(7, "W3010121");
    }

    @Says(in = "Terms", words = TOO_SOON)
    void tooSoon_theEmptyText() {
        error(0, "");
    }

    @Says(in = "Terms", words = TOO_SOON)
    void tooSoon_withinTheLines() {
        String lines = "W3012003";
        for (int length = 0; length < lines.length(); length++) {
            error(length, lines.substring(0, length));
        }
        error(-1, lines);
    }

    @Says(in = "Terms", words = TOO_SOON)
    void tooSoon_withinEachCommand() {
        for (String command : new String[] {"c00", "g00", "x0000", "j00", "t1"}) {
            for (int length = 1; length < command.length(); length++) {
                error(4 + length, "W101" + command.substring(0, length));
            }
            error(-1, "W101" + command);
        }
    }

    @Says(in = "Terms", words = TOO_SOON)
    void tooSoon_aFullText() {
        error(100, "W101" + "t1".repeat(46) + "x000");
        error(100, "W20101" + "c00".repeat(31) + "t");
    }

    // ---- promise 1

    @Says(in = "1", words = "Creates one empty line with the pace 3, and nobody.")
    void promise1_oneEmptyLineWithThePace3() {
        is(1, () -> x.about(1));
        is(3, () -> x.line(0, 0));
        row(0);
        refused(INDEX, StoodMinutes::new, y -> y.line(1, 0));
    }

    @Says(in = "1", words = "Creates one empty line with the pace 3, and nobody.")
    void promise1_nobody() {
        for (int what = 2; what <= 9; what++) {
            int w = what;
            is(0, () -> x.about(w));
        }
        refused(INDEX, StoodMinutes::new, y -> y.person(0, 0));
    }

    @Says(in = "1", words = "Creates one empty line with the pace 3, and nobody.")
    void promise1_twoObjectsShareNothing() {
        StoodMinutes other = new StoodMinutes();
        String before = Seen.of(other);
        x.come(0, 0);
        x.open(4);
        x.set(0, 10);
        x.minutes(1);
        x.append('W');
        x.save(0);
        same(before, Seen.of(other));
        is(0, other::clearText);
        same("IllegalStateException", thrownBy(() -> other.restore(0)));
        same("IllegalStateException", thrownBy(other::undo));
    }

    private static String thrownBy(Due.Call call) {
        try {
            return "" + call.answer();
        } catch (RuntimeException e) {
            return e.getClass().getSimpleName();
        }
    }

    // ---- promise 2

    @Says(in = "2", words = {"Appends a character to the text buffer.", "Returns the new length of the text."})
    void promise2_lengths1to100() {
        for (int length = 1; length <= 100; length++) {
            is(length, () -> x.append('W'));
        }
    }

    @Says(in = "2", words = "`c`: character code, 0 to 255")
    void promise2_c_least0() {
        is(1, () -> x.append(0));
        is(0, x::errorPosition);
    }

    @Says(in = "2", words = "`c`: character code, 0 to 255")
    void promise2_c_most255() {
        is(1, () -> x.append(255));
        is(0, x::errorPosition);
    }

    @Says(in = "2", words = "Throws `IllegalArgumentException` if c is out of range")
    void promise2_c_outOfRange() {
        for (int c : new int[] {-1, 256, Integer.MIN_VALUE, Integer.MAX_VALUE, 'W' + 256, 'W' - 256}) {
            refused(ARGUMENT, Edges::lived, y -> y.append(c));
        }
    }

    @Says(in = "2", words = "Throws `IllegalStateException` if the text already has 100 characters")
    void promise2_text_of100isFull() {
        refused(STATE, () -> written("W103" + "c00".repeat(32)), y -> y.append('W'));
    }

    @Says(in = "2", words = "Throws `IllegalStateException` if the text already has 100 characters")
    void promise2_text_of99isNot() {
        x = written("W".repeat(99));
        is(100, () -> x.append(255));
    }

    @Says(in = "2", words = "Throws `IllegalStateException` if the text already has 100 characters")
    void promise2_text_thatWasFullAndEmptied() {
        x = written("W".repeat(100));
        x.clearText();
        is(1, () -> x.append('W'));
    }

    // ---- promise 3

    @Says(in = "3", words = {"Empties the text buffer.", "Returns the previous length of the text."})
    void promise3_anEmptyText() {
        is(0, x::clearText);
        is(0, x::clearText);
        is(1, () -> x.append('W'));
    }

    @Says(in = "3", words = {"Empties the text buffer.", "Returns the previous length of the text."})
    void promise3_aTextOf1() {
        x = written("W");
        is(1, x::clearText);
        is(0, x::clearText);
    }

    @Says(in = "3", words = {"Empties the text buffer.", "Returns the previous length of the text."})
    void promise3_aFullText() {
        x = written("W101" + "t1".repeat(48));
        is(100, x::clearText);
        is(0, x::clearText);
        is(0, x::errorPosition);
    }

    @Says(in = "3", words = "Empties the text buffer.")
    void promise3_nothingOfTheOldTextIsLeft() {
        x = written("W101c00");
        x.clearText();
        Seen.write(x, "W1");
        is(2, x::errorPosition);
    }

    // ---- promise 4

    @Says(in = "4", words = {"Checks the text.", "Returns the error position of the text; NONE if it is a day."})
    void promise4_theEmptyText() {
        is(0, x::errorPosition);
    }

    @Says(in = "4", words = "Returns the error position of the text; NONE if it is a day.")
    void promise4_theShortestDay() {
        error(-1, "W101");
        error(3, "W10");
    }

    @Says(in = "4", words = "Returns the error position of the text; NONE if it is a day.")
    void promise4_aDayOf100Characters() {
        error(-1, "W101" + "c00".repeat(32));
        error(-1, "W101" + "x2929".repeat(18) + "t9t9t9");
    }

    @Says(in = "4", words = "Checks the text.")
    void promise4_theTextIsKept() {
        x = written("W101c");
        is(5, x::errorPosition);
        is(5, x::errorPosition);
        is(5, x::clearText);
    }

    // ---- promise 5

    private static final String AS_NEW =
            "Makes everything as in a new object, with the lines of the text, and does its commands.";
    private static final String FORGETS = "Behind it no state is remembered, and both save slots are empty.";

    private static StoodMinutes livedWith(String text) {
        StoodMinutes y = lived();
        y.clearText();
        Seen.write(y, text);
        return y;
    }

    @Says(in = "5", words = AS_NEW)
    void promise5_asANewObject() {
        x = livedWith("W103");
        x.load();
        same(Seen.of(new StoodMinutes()), Seen.of(x));
    }

    @Says(in = "5", words = AS_NEW)
    void promise5_theCommandsMeetNothingOfTheStateBefore() {
        x = livedWith("W20320c00c10c00c21t2x0200");
        x.load();
        StoodMinutes fresh = day("W20320c00c10c00c21t2x0200");
        same(Seen.of(fresh), Seen.of(x));
        is(1, () -> x.jump(1));
    }

    @Says(in = "5", words = AS_NEW)
    void promise5_ofAllThatThePeopleBeforeHadNothingIsLeft() {
        x = day("W22020c20c10c20c21c11c21t9j02j05x0100");
        x.go(2);
        x.minutes(60);
        x.clearText();
        Seen.write(x, "W22020c00c00c00c01c01c01");
        x.load();
        same(Seen.of(day("W22020c00c00c00c01c01c01")), Seen.of(x));
    }

    @Says(in = "5", words = AS_NEW)
    void promise5_commandsOfPeopleOfTheDayBeforeAreLeftOut() {
        x = day("W120c00c10c10c10t9");
        x.clearText();
        Seen.write(x, "W120c00g01x0100j02x0001");
        is(4, x::load);
        is(1, () -> x.about(2));
        is(0, () -> x.about(5));
    }

    @Says(in = "5", words = AS_NEW)
    void promise5_linesOfTheDayBeforeServeNobody() {
        x = day("W3200101c00c01c01c02c02");
        x.clearText();
        Seen.write(x, "W120c00c00c00c00c00");
        x.load();
        is(0, () -> x.minutes(5));
        row(0, 0, 1, 2, 3, 4);
        is(0, x::bestLine);
        is(1, () -> x.open(1));
        row(1);
        is(0, () -> x.minutes(5));
    }

    @Says(in = "5", words = AS_NEW)
    void promise5_nothingOfWhatWasPaidBeforeCounts() {
        x = day("W22020c00c10j01t9");
        is(2, () -> x.about(8));
        x.load();
        is(2, () -> x.about(8));
        x.clearText();
        Seen.write(x, "W120");
        x.load();
        is(0, () -> x.about(8));
        is(0, () -> x.about(9));
    }

    @Says(in = "5", words = AS_NEW)
    void promise5_theSettingsAreThoseAtFirst() {
        x = new StoodMinutes();
        x.set(0, 99);
        x.set(1, 50);
        x.set(2, 9);
        x.set(3, 5);
        Seen.write(x, "W120c00c00t2x0100");
        is(0, x::load);
        is(30, () -> x.setting(0));
        is(5, () -> x.setting(1));
        is(2, () -> x.setting(2));
        is(2, () -> x.setting(3));
    }

    @Says(in = "5", words = AS_NEW)
    void promise5_1lineAfter3() {
        x = day("W3030303c02");
        x.clearText();
        Seen.write(x, "W120");
        x.load();
        is(1, () -> x.about(1));
        is(1, () -> x.open(1));
        is(2, () -> x.open(1));
        row(2);
    }

    @Says(in = "5", words = FORGETS)
    void promise5_noStateIsRemembered() {
        refused(STATE, () -> {
            StoodMinutes y = livedWith("W103c00t1");
            y.load();
            return y;
        }, StoodMinutes::undo);
    }

    @Says(in = "5", words = FORGETS)
    void promise5_noneOfFourteenStatesIsRemembered() {
        refused(STATE, () -> {
            StoodMinutes y = written("W103");
            for (int i = 0; i < 15; i++) {
                y.minutes(1);
            }
            y.load();
            return y;
        }, StoodMinutes::undo);
    }

    @Says(in = "5", words = FORGETS)
    void promise5_bothSlotsAreEmpty() {
        for (int slot = 0; slot <= 1; slot++) {
            int s = slot;
            refused(STATE, () -> {
                StoodMinutes y = livedWith("W103");
                y.save(0);
                y.save(1);
                y.load();
                return y;
            }, y -> y.restore(s));
        }
    }

    @Says(in = "5", words = "Keeps the text.")
    void promise5_keepsTheText() {
        x = written("W103c00t1");
        x.load();
        is(-1, x::errorPosition);
        is(0, x::load);
        is(9, x::clearText);
    }

    @Says(in = "5", words = "Keeps the text.")
    void promise5_keepsAFullText() {
        x = written("W101" + "c00".repeat(32));
        is(20, x::load);
        is(20, x::load);
        is(100, x::clearText);
    }

    @Says(in = "5", words = "Returns the number of commands that are left out.")
    void promise5_noneIsLeftOut() {
        leftOut(0, "W103");
        leftOut(0, "W103c00");
    }

    @Says(in = "5", words = "Returns the number of commands that are left out.")
    void promise5_allAreLeftOut() {
        leftOut(1, "W103g00");
        leftOut(32, "W103" + "j29".repeat(32));
    }

    @Says(in = "5", words = "Throws `IllegalStateException` if the text is not a day")
    void promise5_theEmptyTextIsNoDay() {
        refused(STATE, () -> livedWith(""), StoodMinutes::load);
    }

    @Says(in = "5", words = "Throws `IllegalStateException` if the text is not a day")
    void promise5_aTextThatEndsTooSoonIsNoDay() {
        refused(STATE, () -> livedWith("W"), StoodMinutes::load);
        refused(STATE, () -> livedWith("W10"), StoodMinutes::load);
        refused(STATE, () -> livedWith("W101c0"), StoodMinutes::load);
    }

    @Says(in = "5", words = "Throws `IllegalStateException` if the text is not a day")
    void promise5_aTextWithAWrongCharacterIsNoDay() {
        refused(STATE, () -> livedWith("w101"), StoodMinutes::load);
        refused(STATE, () -> livedWith("W101c00 "), StoodMinutes::load);
        refused(STATE, () -> livedWith("W101c00t0"), StoodMinutes::load);
    }
}
