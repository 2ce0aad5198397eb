/** The document's terms: lines and people. */
final class LinesEdgesTest extends Edges {
    private static final String LINES = "There are at most 3 lines, numbered from 0, at first one;";
    private static final String PACE = "each has a pace, 1 to 20 minutes, at first 3:";
    private static final String COUNTER = "when a line is not empty, its counter serves the first one in it, "
            + "who leaves it when the counter has worked that many minutes on it.";
    private static final String PEOPLE =
            "There are at most 30 people, numbered from 0 in the order in which they came;";
    private static final String KIND = "each has a kind: plain (0), by right (1), or hasty (2).";
    private static final String PLACE = "Someone stands in a line at a place, 0 for the first one, "
            + "or is served (done), or went away (gone).";
    private static final String TWELVE = "At most 12 stand in one line.";

    public static void main(String[] args) {
        run(LinesEdgesTest.class);
    }

    private static StoodMinutes threeLines() {
        StoodMinutes y = new StoodMinutes();
        y.open(1);
        y.open(20);
        return y;
    }

    // ---- lines

    @Says(in = "Terms", words = LINES)
    void lines_atFirstOne() {
        is(1, () -> x.about(1));
        row(0);
        refused(INDEX, StoodMinutes::new, y -> y.at(1, 0));
    }

    @Says(in = "Terms", words = LINES)
    void lines_theSecondOneIs1() {
        is(1, () -> x.open(4));
        is(2, () -> x.about(1));
        row(1);
    }

    @Says(in = "Terms", words = LINES)
    void lines_theThirdOneIs2() {
        x.open(4);
        is(2, () -> x.open(4));
        is(3, () -> x.about(1));
        row(2);
    }

    @Says(in = "Terms", words = LINES)
    void lines_noFourth() {
        refused(STATE, LinesEdgesTest::threeLines, y -> y.open(4));
        refused(INDEX, LinesEdgesTest::threeLines, y -> y.line(3, 0));
    }

    @Says(in = "Terms", words = PACE)
    void pace_atFirst3() {
        is(3, () -> x.line(0, 0));
    }

    @Says(in = "Terms", words = PACE)
    void pace_least1_servesOneEachMinute() {
        x = day("W101c00c00");
        is(1, () -> x.minutes(1));
        row(0, 1);
        is(1, () -> x.minutes(1));
        row(0);
    }

    @Says(in = "Terms", words = PACE)
    void pace_most20_servesOneAfter20Minutes() {
        x = day("W120c00c00");
        is(0, () -> x.minutes(19));
        row(0, 0, 1);
        is(1, () -> x.minutes(1));
        row(0, 1);
    }

    @Says(in = "Terms", words = PACE)
    void pace_0and21areNone() {
        refused(ARGUMENT, StoodMinutes::new, y -> y.open(0));
        refused(ARGUMENT, StoodMinutes::new, y -> y.open(21));
    }

    @Says(in = "Terms", words = COUNTER)
    void counter_ofAnEmptyLineServesNobody() {
        is(0, () -> x.minutes(60));
        is(0, () -> x.line(0, 2));
        is(0, () -> x.line(0, 3));
    }

    @Says(in = "Terms", words = COUNTER)
    void counter_oneMinuteBelowThePace_theFirstOneStands() {
        x = Seen.withPeople(2);
        is(0, () -> x.minutes(2));
        row(0, 0, 1);
        is(0, () -> x.person(0, 6));
    }

    @Says(in = "Terms", words = COUNTER)
    void counter_atThePace_theFirstOneLeaves() {
        x = Seen.withPeople(2);
        is(1, () -> x.minutes(3));
        row(0, 1);
        is(1, () -> x.person(0, 6));
    }

    @Says(in = "Terms", words = COUNTER)
    void counter_oneMinuteAboveThePace_theNextOneStands() {
        x = Seen.withPeople(2);
        is(1, () -> x.minutes(4));
        row(0, 1);
        is(1, () -> x.line(0, 2));
    }

    @Says(in = "Terms", words = COUNTER)
    void counter_ofALineThatBecomesEmpty() {
        x = Seen.withPeople(1);
        is(1, () -> x.minutes(3));
        row(0);
        is(0, () -> x.minutes(60));
        is(1, () -> x.line(0, 3));
    }

    // ---- people

    @Says(in = "Terms", words = PEOPLE)
    void people_atFirstNobody() {
        is(0, () -> x.about(2));
        refused(INDEX, StoodMinutes::new, y -> y.person(0, 0));
    }

    @Says(in = "Terms", words = PEOPLE)
    void people_areNumberedOverAllLines() {
        x = threeLines();
        is(0, () -> x.come(2, 0));
        is(1, () -> x.come(0, 0));
        is(2, () -> x.come(1, 0));
        is(3, () -> x.come(2, 0));
        row(2, 0, 3);
    }

    @Says(in = "Terms", words = PEOPLE)
    void people_numbersOfThoseWhoAreServedOrGoneAreNotUsedAgain() {
        x = Seen.withPeople(2);
        x.minutes(3);
        x.go(1);
        is(2, () -> x.come(0, 0));
    }

    @Says(in = "Terms", words = PEOPLE)
    void people_the30thComes() {
        x = day("W3202020" + "c00".repeat(12) + "c01".repeat(12) + "c02".repeat(5));
        is(29, () -> x.about(2));
        is(29, () -> x.come(2, 0));
        is(30, () -> x.about(3));
    }

    @Says(in = "Terms", words = PEOPLE)
    void people_the31stIsRefused() {
        refused(STATE, Edges::thirty, y -> y.come(2, 0));
    }

    @Says(in = "Terms", words = PEOPLE)
    void people_the31stIsRefusedThoughAllAreServed() {
        refused(STATE, () -> {
            StoodMinutes y = day("W3010101" + "c00".repeat(12) + "c01".repeat(12) + "c02".repeat(6));
            y.minutes(12);
            return y;
        }, y -> y.come(0, 0));
    }

    @Says(in = "Terms", words = PEOPLE)
    void people_the31stIsRefusedThoughOneWentAway() {
        refused(STATE, () -> {
            StoodMinutes y = thirty();
            y.go(29);
            return y;
        }, y -> y.come(2, 0));
    }

    @Says(in = "Terms", words = KIND)
    void kind_least0_isPlain_andCannotJump() {
        x.come(0, 0);
        x.come(0, 0);
        is(0, () -> x.person(1, 0));
        refused(STATE, () -> Seen.withPeople(2), y -> y.jump(1));
    }

    @Says(in = "Terms", words = KIND)
    void kind_1_isByRight_andTheHousePaysItsJump() {
        x.come(0, 0);
        x.come(0, 1);
        is(1, () -> x.person(1, 0));
        is(1, () -> x.jump(1));
        is(2, () -> x.about(8));
    }

    @Says(in = "Terms", words = KIND)
    void kind_most2_isHasty_andPaysItsJump() {
        x.come(0, 0);
        x.come(0, 2);
        is(2, () -> x.person(1, 0));
        is(1, () -> x.jump(1));
        is(-2, () -> x.person(1, 4));
    }

    @Says(in = "Terms", words = KIND)
    void kind_minus1and3areNone() {
        refused(ARGUMENT, StoodMinutes::new, y -> y.come(0, -1));
        refused(ARGUMENT, StoodMinutes::new, y -> y.come(0, 3));
    }

    @Says(in = "Terms", words = PLACE)
    void place_0isTheFirstOnes() {
        x = Seen.withPeople(2);
        is(0, () -> x.at(0, 0));
        is(0, () -> x.person(0, 2));
        is(1, () -> x.person(1, 2));
        is(0, () -> x.person(1, 6));
    }

    @Says(in = "Terms", words = PLACE)
    void place_noneOfOneWhoIsServed() {
        x = day("W101c00");
        x.minutes(1);
        is(1, () -> x.person(0, 6));
        is(-1, () -> x.person(0, 1));
        is(-1, () -> x.person(0, 2));
    }

    @Says(in = "Terms", words = PLACE)
    void place_noneOfOneWhoWentAway() {
        x.come(0, 0);
        x.go(0);
        is(2, () -> x.person(0, 6));
        is(-1, () -> x.person(0, 1));
        is(-1, () -> x.person(0, 2));
    }

    @Says(in = "Terms", words = TWELVE)
    void twelve_the12thStands() {
        x = Seen.withPeople(11);
        is(11, () -> x.come(0, 0));
        row(0, 0, 1, 2, 3, 4, 5, 6, 7, 8, 9, 10, 11);
    }

    @Says(in = "Terms", words = TWELVE)
    void twelve_the13thIsRefused() {
        refused(STATE, () -> Seen.withPeople(12), y -> y.come(0, 0));
    }

    @Says(in = "Terms", words = TWELVE)
    void twelve_inEachOfTwoLines() {
        x = Seen.withPeople(12);
        x.open(20);
        for (int p = 12; p < 24; p++) {
            int one = p;
            is(one, () -> x.come(1, 0));
        }
        is(12, () -> x.line(0, 1));
        is(12, () -> x.line(1, 1));
    }

    @Says(in = "Terms", words = TWELVE)
    void twelve_behindOneWhoWentAwayAnotherOneStands() {
        x = Seen.withPeople(12);
        x.go(0);
        is(12, () -> x.come(0, 0));
        row(0, 1, 2, 3, 4, 5, 6, 7, 8, 9, 10, 11, 12);
    }

    @Says(in = "Terms", words = TWELVE)
    void twelve_behindOneWhoIsServedAnotherOneStands() {
        x = Seen.withPeople(12);
        x.minutes(3);
        is(12, () -> x.come(0, 0));
        is(12, () -> x.line(0, 1));
    }
}
