/** The promises 6 to 10: what there is. */
final class SeenEdgesTest extends Edges {
    private static final int[] FAR = {Integer.MIN_VALUE, Integer.MAX_VALUE};

    public static void main(String[] args) {
        run(SeenEdgesTest.class);
    }

    // ---- promise 6

    private static final String ABOUT = "`what`: 0: the minutes that went by; 1: the lines; 2: the people who came "
            + "so far; 3: those who stand; 4: those who are served; 5: those who are gone; 6: the exchanges so far; "
            + "7: the jumps so far; 8: what the house has paid so far, fees and jumps together; "
            + "9: the sum of all accounts";
    private static final String ABOUT_RANGE = "Throws `IllegalArgumentException` if what is not 0 to 9";

    private void about(int... numbers) {
        for (int what = 0; what < numbers.length; what++) {
            int w = what;
            is(numbers[w], () -> x.about(w));
        }
    }

    @Says(in = "6", words = {ABOUT, "Returns a number.", "Returns that number."})
    void promise6_ofANewObject() {
        about(0, 1, 0, 0, 0, 0, 0, 0, 0, 0);
    }

    @Says(in = "6", words = ABOUT)
    void promise6_ofAFullRowOfPeopleAndLines() {
        x = thirty();
        about(0, 3, 30, 30, 0, 0, 0, 0, 0, 0);
    }

    @Says(in = "6", words = ABOUT)
    void promise6_whenAllAreServed() {
        x = day("W3010101" + "c00".repeat(12) + "c01".repeat(12) + "c02".repeat(6));
        x.minutes(12);
        about(12, 3, 30, 0, 30, 0, 0, 0, 0, 0);
    }

    @Says(in = "6", words = ABOUT)
    void promise6_whenAllAreGone() {
        x = thirty();
        for (int p = 0; p < 30; p++) {
            x.go(p);
        }
        about(0, 3, 30, 0, 0, 30, 0, 0, 0, 0);
    }

    @Says(in = "6", words = ABOUT)
    void promise6_exchangesAndJumps_eachCountsItsOwn() {
        x = day("W120c00c00c20c10t4x0100x0001j02j03x0100");
        about(4, 1, 4, 4, 0, 0, 3, 2, 4, 4);
    }

    @Says(in = "6", words = ABOUT)
    void promise6_refusedExchangesAndJumpsDoNotCount() {
        x = day("W120c00c00x0100j00j01");
        about(0, 1, 2, 2, 0, 0, 0, 0, 0, 0);
    }

    @Says(in = "6", words = ABOUT)
    void promise6_8_feesAndJumpsTogether() {
        x = day("W120c00c00c10j02");
        x.minutes(30);
        is(4 + 10, () -> x.about(8));
        is(4 + 10, () -> x.about(9));
    }

    @Says(in = "6", words = ABOUT)
    void promise6_9_thoseWhoStandNoLongerCount() {
        x = day("W120c00c00c10j02");
        x.go(0);
        x.minutes(60);
        is(2, () -> x.person(0, 4));
        is(x.about(8), () -> x.about(9));
    }

    @Says(in = "6", words = ABOUT)
    void promise6_9_whatOnePaysAnotherOneIsNothingInAll() {
        x = day("W120c00c00c20t9x0100j02");
        is(0, () -> x.about(9));
    }

    @Says(in = "6", words = ABOUT_RANGE)
    void promise6_what_minus1() {
        refused(ARGUMENT, Edges::lived, y -> y.about(-1));
    }

    @Says(in = "6", words = ABOUT_RANGE)
    void promise6_what_10() {
        refused(ARGUMENT, Edges::lived, y -> y.about(10));
    }

    @Says(in = "6", words = ABOUT_RANGE)
    void promise6_what_farOutOfRange() {
        for (int what : FAR) {
            refused(ARGUMENT, Edges::lived, y -> y.about(what));
        }
    }

    // ---- promise 7

    private static final String LINE = "`what`: 0: its pace; 1: how many stand in it; 2: the minutes that its "
            + "counter has worked on the first one; 3: how many it has served so far; 4: the minutes that all who "
            + "stand in it have stood together";
    private static final String NO_LINE = "Throws `IndexOutOfBoundsException` if there is no such line";
    private static final String LINE_RANGE = "Throws `IllegalArgumentException` if what is not 0 to 4";

    private void line(int l, int... numbers) {
        for (int what = 0; what < numbers.length; what++) {
            int w = what;
            is(numbers[w], () -> x.line(l, w));
        }
    }

    @Says(in = "7", words = {LINE, "`l`: line", "Returns a number of a line.", "Returns that number."})
    void promise7_ofAnEmptyLine() {
        line(0, 3, 0, 0, 0, 0);
    }

    @Says(in = "7", words = LINE)
    void promise7_ofAnEmptyLineWhoseCounterKeptItsMinutes() {
        x = day("W120c00t9g00");
        line(0, 20, 0, 9, 0, 0);
    }

    @Says(in = "7", words = LINE)
    void promise7_ofALineThatBecameEmpty() {
        x = day("W120c00");
        x.minutes(60);
        line(0, 20, 0, 0, 1, 0);
    }

    @Says(in = "7", words = LINE)
    void promise7_ofAFullLine() {
        x = day("W120" + "c00".repeat(12));
        x.minutes(19);
        line(0, 20, 12, 19, 0, 12 * 19);
        x.minutes(1);
        line(0, 20, 11, 0, 1, 11 * 20);
    }

    @Says(in = "7", words = LINE)
    void promise7_ofTheThirdLine() {
        x = day("W3010220c00c01c02t1c02t1");
        line(0, 1, 0, 0, 1, 0);
        line(1, 2, 0, 0, 1, 0);
        line(2, 20, 2, 2, 0, 3);
    }

    @Says(in = "7", words = LINE)
    void promise7_3_aMergingMovesNothingOfWhatIsServed() {
        x = day("W20101c00c00c00c01c01t2");
        x.merge(1, 0);
        is(2, () -> x.line(0, 3));
        is(2, () -> x.line(1, 3));
    }

    @Says(in = "7", words = NO_LINE)
    void promise7_l_minus1() {
        refused(INDEX, Edges::lived, y -> y.line(-1, 0));
    }

    @Says(in = "7", words = NO_LINE)
    void promise7_l_theNumberOfLines() {
        refused(INDEX, StoodMinutes::new, y -> y.line(1, 0));
        refused(INDEX, Edges::lived, y -> y.line(2, 0));
        refused(INDEX, Edges::thirty, y -> y.line(3, 0));
    }

    @Says(in = "7", words = NO_LINE)
    void promise7_l_farOutOfRange() {
        for (int l : FAR) {
            refused(INDEX, Edges::lived, y -> y.line(l, 0));
        }
    }

    @Says(in = "7", words = NO_LINE)
    void promise7_l_aLineThatWasTakenBack() {
        refused(INDEX, () -> {
            StoodMinutes y = new StoodMinutes();
            y.open(4);
            y.undo();
            return y;
        }, y -> y.line(1, 0));
    }

    @Says(in = "7", words = LINE_RANGE)
    void promise7_what_minus1() {
        refused(ARGUMENT, Edges::lived, y -> y.line(0, -1));
    }

    @Says(in = "7", words = LINE_RANGE)
    void promise7_what_5() {
        refused(ARGUMENT, Edges::lived, y -> y.line(1, 5));
    }

    @Says(in = "7", words = LINE_RANGE)
    void promise7_what_farOutOfRange() {
        for (int what : FAR) {
            refused(ARGUMENT, Edges::lived, y -> y.line(0, what));
        }
    }

    // ---- promise 8

    private static final String AT = "Returns the person; NONE if the line is not so long.";

    @Says(in = "8", words = {AT, "Returns who stands at a place.", "`l`: line", "`k`: place, 0 or more"})
    void promise8_theFirstPlace() {
        x = Seen.withPeople(1);
        is(0, () -> x.at(0, 0));
    }

    @Says(in = "8", words = AT)
    void promise8_justBehindTheLastOne() {
        x = Seen.withPeople(1);
        is(-1, () -> x.at(0, 1));
    }

    @Says(in = "8", words = AT)
    void promise8_anEmptyLine() {
        is(-1, () -> x.at(0, 0));
    }

    @Says(in = "8", words = AT)
    void promise8_aLineThatBecameShorter() {
        x = Seen.withPeople(3);
        x.go(2);
        is(1, () -> x.at(0, 1));
        is(-1, () -> x.at(0, 2));
        x.minutes(3);
        is(1, () -> x.at(0, 0));
        is(-1, () -> x.at(0, 1));
    }

    @Says(in = "8", words = AT)
    void promise8_aFullLine() {
        x = Seen.withPeople(12);
        is(11, () -> x.at(0, 11));
        is(-1, () -> x.at(0, 12));
    }

    @Says(in = "8", words = "`k`: place, 0 or more")
    void promise8_k_theGreatestInt() {
        x = Seen.withPeople(12);
        is(-1, () -> x.at(0, Integer.MAX_VALUE));
    }

    @Says(in = "8", words = NO_LINE)
    void promise8_l_minus1() {
        refused(INDEX, Edges::lived, y -> y.at(-1, 0));
    }

    @Says(in = "8", words = NO_LINE)
    void promise8_l_theNumberOfLines() {
        refused(INDEX, StoodMinutes::new, y -> y.at(1, 0));
        refused(INDEX, Edges::lived, y -> y.at(2, 0));
        refused(INDEX, Edges::thirty, y -> y.at(3, 0));
    }

    @Says(in = "8", words = NO_LINE)
    void promise8_l_farOutOfRange() {
        for (int l : FAR) {
            refused(INDEX, Edges::lived, y -> y.at(l, 0));
        }
    }

    @Says(in = "8", words = "Throws `IllegalArgumentException` if k is negative")
    void promise8_k_minus1() {
        refused(ARGUMENT, Edges::lived, y -> y.at(0, -1));
    }

    @Says(in = "8", words = "Throws `IllegalArgumentException` if k is negative")
    void promise8_k_theLeastInt() {
        refused(ARGUMENT, Edges::lived, y -> y.at(0, Integer.MIN_VALUE));
    }

    // ---- promise 9

    private static final String PERSON = "`what`: 0: the kind; 1: the line, NONE if it stands in none; 2: the place, "
            + "NONE if it stands in no line; 3: the minutes stood; 4: the account; 5: what it was paid by the house "
            + "so far; 6: 0 if it stands, 1 if it is served, 2 if it is gone; 7: in which minute it came (how many "
            + "had gone by);";
    private static final String PASSED = "8: the places that it was passed by, or fell back, less those that it "
            + "went forward, by exchanges and jumps, so far";
    private static final String NO_PERSON = "Throws `IndexOutOfBoundsException` if there is no such person";
    private static final String PERSON_RANGE = "Throws `IllegalArgumentException` if what is not 0 to 8";

    private void person(int p, int... numbers) {
        for (int what = 0; what < numbers.length; what++) {
            int w = what;
            is(numbers[w], () -> x.person(p, w));
        }
    }

    @Says(in = "9", words = {PERSON, PASSED, "`p`: person", "Returns a number of a person.", "Returns that number."})
    void promise9_ofOneWhoJustCame() {
        x.minutes(60);
        x.come(0, 2);
        person(0, 2, 0, 0, 0, 0, 0, 0, 60, 0);
    }

    @Says(in = "9", words = PERSON)
    void promise9_ofTheThirtiethPerson() {
        x = thirty();
        person(29, 0, 2, 5, 0, 0, 0, 0, 0, 0);
    }

    @Says(in = "9", words = PERSON)
    void promise9_ofOneWhoIsServed() {
        x = day("W111c10");
        x.set(0, 10);
        x.minutes(60);
        person(0, 1, -1, -1, 11, 5, 5, 1, 0, 0);
    }

    @Says(in = "9", words = PERSON)
    void promise9_ofOneWhoWentAway() {
        x = day("W111t3c20t4g00t9");
        person(0, 2, -1, -1, 4, 0, 0, 2, 3, 0);
    }

    @Says(in = "9", words = PERSON)
    void promise9_ofTheFirstAndTheLastOfAFullLine() {
        x = day("W3020202" + "c01".repeat(12));
        person(0, 0, 1, 0);
        person(11, 0, 1, 11);
    }

    @Says(in = "9", words = PASSED)
    void promise9_8_anExchangeOfElevenPlaces() {
        x = day("W120" + "c00".repeat(12));
        x.set(2, 1);
        x.minutes(11);
        x.exchange(11, 0);
        is(-11, () -> x.person(11, 8));
        is(11, () -> x.person(0, 8));
        for (int p = 1; p < 11; p++) {
            int one = p;
            is(0, () -> x.person(one, 8));
        }
    }

    @Says(in = "9", words = PASSED)
    void promise9_8_aJumpOfFivePlaces() {
        x = day("W120" + "c00".repeat(6) + "c10");
        x.set(3, 5);
        x.jump(6);
        is(-5, () -> x.person(6, 8));
        is(0, () -> x.person(0, 8));
        for (int p = 1; p < 6; p++) {
            int one = p;
            is(1, () -> x.person(one, 8));
        }
    }

    @Says(in = "9", words = PASSED)
    void promise9_8_aJumpToTheFirstPlaceCountsThePlacesThatThereWere() {
        x = day("W120c00c10");
        x.set(3, 5);
        x.jump(1);
        is(-1, () -> x.person(1, 8));
        is(1, () -> x.person(0, 8));
    }

    @Says(in = "9", words = PASSED)
    void promise9_8_servingGoingAndMergingDoNotCount() {
        x = day("W20320c00c00c01c00c01t3g01");
        x.merge(1, 0);
        row(1, 2, 3, 4);
        for (int p = 0; p < 5; p++) {
            int one = p;
            is(0, () -> x.person(one, 8));
        }
    }

    @Says(in = "9", words = PASSED)
    void promise9_8_isKeptByOneWhoStandsNoLonger() {
        x = day("W120c00c00c10j02g02g00");
        is(-2, () -> x.person(2, 8));
        is(1, () -> x.person(0, 8));
    }

    @Says(in = "9", words = NO_PERSON)
    void promise9_p_minus1() {
        refused(INDEX, Edges::lived, y -> y.person(-1, 0));
    }

    @Says(in = "9", words = NO_PERSON)
    void promise9_p_theNumberOfPeople() {
        refused(INDEX, StoodMinutes::new, y -> y.person(0, 0));
        refused(INDEX, Edges::lived, y -> y.person(7, 0));
        refused(INDEX, Edges::thirty, y -> y.person(30, 0));
    }

    @Says(in = "9", words = NO_PERSON)
    void promise9_p_farOutOfRange() {
        for (int p : FAR) {
            refused(INDEX, Edges::lived, y -> y.person(p, 0));
        }
    }

    @Says(in = "9", words = NO_PERSON)
    void promise9_p_onePersonWhoWasTakenBack() {
        refused(INDEX, () -> {
            StoodMinutes y = Seen.withPeople(2);
            y.undo();
            return y;
        }, y -> y.person(1, 0));
    }

    @Says(in = "9", words = PERSON_RANGE)
    void promise9_what_minus1() {
        refused(ARGUMENT, Edges::lived, y -> y.person(0, -1));
    }

    @Says(in = "9", words = PERSON_RANGE)
    void promise9_what_9() {
        refused(ARGUMENT, Edges::lived, y -> y.person(0, 9));
    }

    @Says(in = "9", words = PERSON_RANGE)
    void promise9_what_farOutOfRange() {
        for (int what : FAR) {
            refused(ARGUMENT, Edges::lived, y -> y.person(0, what));
        }
    }

    // ---- promise 10

    private static final String SETTING_RANGE = "Throws `IllegalArgumentException` if what is out of range";

    @Says(in = "10", words = {"Returns a setting.", "`what`: 0 to 3", "Returns that setting."})
    void promise10_least0() {
        is(30, () -> x.setting(0));
        x.set(0, 99);
        is(99, () -> x.setting(0));
    }

    @Says(in = "10", words = "`what`: 0 to 3")
    void promise10_most3() {
        is(2, () -> x.setting(3));
        x.set(3, 5);
        is(5, () -> x.setting(3));
    }

    @Says(in = "10", words = SETTING_RANGE)
    void promise10_what_minus1() {
        refused(ARGUMENT, Edges::lived, y -> y.setting(-1));
    }

    @Says(in = "10", words = SETTING_RANGE)
    void promise10_what_4() {
        refused(ARGUMENT, Edges::lived, y -> y.setting(4));
    }

    @Says(in = "10", words = SETTING_RANGE)
    void promise10_what_farOutOfRange() {
        for (int what : FAR) {
            refused(ARGUMENT, Edges::lived, y -> y.setting(what));
        }
    }
}
