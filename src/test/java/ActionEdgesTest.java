/** The promises 11 to 18: the actions, but for undo. */
final class ActionEdgesTest extends Edges {
    private static final int[] FAR = {Integer.MIN_VALUE, Integer.MAX_VALUE};
    private static final String NO_LINE = "Throws `IndexOutOfBoundsException` if there is no such line";
    private static final String NO_PERSON = "Throws `IndexOutOfBoundsException` if there is no such person";

    public static void main(String[] args) {
        run(ActionEdgesTest.class);
    }

    // ---- promise 11

    @Says(in = "11", words = {"Opens a line.", "`pace`: 1 to 20", "Returns its number."})
    void promise11_pace_least1() {
        is(1, () -> x.open(1));
        is(1, () -> x.line(1, 0));
        row(1);
        is(0, () -> x.line(1, 2) + x.line(1, 3) + x.line(1, 4));
    }

    @Says(in = "11", words = {"`pace`: 1 to 20", "Returns its number."})
    void promise11_pace_most20() {
        x.open(1);
        is(2, () -> x.open(20));
        is(20, () -> x.line(2, 0));
    }

    @Says(in = "11", words = "Throws `IllegalArgumentException` if pace is out of range")
    void promise11_pace_0() {
        refused(ARGUMENT, Edges::lived, y -> y.open(0));
    }

    @Says(in = "11", words = "Throws `IllegalArgumentException` if pace is out of range")
    void promise11_pace_21() {
        refused(ARGUMENT, Edges::lived, y -> y.open(21));
    }

    @Says(in = "11", words = "Throws `IllegalArgumentException` if pace is out of range")
    void promise11_pace_farOutOfRange() {
        refused(ARGUMENT, Edges::lived, y -> y.open(-1));
        for (int pace : FAR) {
            refused(ARGUMENT, Edges::lived, y -> y.open(pace));
        }
    }

    @Says(in = "11", words = "Throws `IllegalStateException` if there are 3")
    void promise11_thereAre2() {
        x = lived();
        is(2, () -> x.open(5));
    }

    @Says(in = "11", words = "Throws `IllegalStateException` if there are 3")
    void promise11_thereAre3() {
        refused(STATE, Edges::thirty, y -> y.open(5));
        refused(STATE, () -> {
            StoodMinutes y = lived();
            y.open(5);
            return y;
        }, y -> y.open(5));
    }

    @Says(in = "11", words = "Throws `IllegalStateException` if there are 3")
    void promise11_thereWere3() {
        x = lived();
        x.open(5);
        x.undo();
        is(2, () -> x.open(6));
        is(6, () -> x.line(2, 0));
    }

    // ---- promise 12

    @Says(in = "12", words = {"Someone comes, and stands at the end of a line.", "Returns the person."})
    void promise12_toAnEmptyLine() {
        is(0, () -> x.come(0, 0));
        row(0, 0);
    }

    @Says(in = "12", words = {"Someone comes, and stands at the end of a line.", "`l`: line"})
    void promise12_toTheLastPlaceOfALine() {
        x = day("W22020" + "c01".repeat(11) + "c00");
        is(12, () -> x.come(1, 0));
        is(12, () -> x.at(1, 11));
        row(0, 11);
    }

    @Says(in = "12", words = "Someone comes, and stands at the end of a line.")
    void promise12_behindOneWhoJumpedTheLine() {
        x = day("W120c00c10j01");
        is(2, () -> x.come(0, 0));
        row(0, 1, 0, 2);
    }

    @Says(in = "12", words = "Returns the person.")
    void promise12_theThirtiethPerson() {
        x = day("W3202020" + "c00".repeat(12) + "c01".repeat(12) + "c02".repeat(5));
        is(29, () -> x.come(2, 0));
    }

    @Says(in = "12", words = "`kind`: 0 to 2")
    void promise12_kind_least0() {
        is(0, () -> x.come(0, 0));
        is(0, () -> x.person(0, 0));
    }

    @Says(in = "12", words = "`kind`: 0 to 2")
    void promise12_kind_most2() {
        is(0, () -> x.come(0, 2));
        is(2, () -> x.person(0, 0));
    }

    @Says(in = "12", words = NO_LINE)
    void promise12_l_minus1() {
        refused(INDEX, Edges::lived, y -> y.come(-1, 0));
    }

    @Says(in = "12", words = NO_LINE)
    void promise12_l_theNumberOfLines() {
        refused(INDEX, StoodMinutes::new, y -> y.come(1, 0));
        refused(INDEX, Edges::lived, y -> y.come(2, 0));
        refused(INDEX, Edges::thirty, y -> y.come(3, 0));
    }

    @Says(in = "12", words = NO_LINE)
    void promise12_l_farOutOfRange() {
        for (int l : FAR) {
            refused(INDEX, Edges::lived, y -> y.come(l, 0));
        }
    }

    @Says(in = "12", words = "Throws `IllegalArgumentException` if kind is out of range")
    void promise12_kind_minus1() {
        refused(ARGUMENT, Edges::lived, y -> y.come(0, -1));
    }

    @Says(in = "12", words = "Throws `IllegalArgumentException` if kind is out of range")
    void promise12_kind_3() {
        refused(ARGUMENT, Edges::lived, y -> y.come(0, 3));
    }

    @Says(in = "12", words = "Throws `IllegalArgumentException` if kind is out of range")
    void promise12_kind_farOutOfRange() {
        for (int kind : FAR) {
            refused(ARGUMENT, Edges::lived, y -> y.come(0, kind));
        }
    }

    private static final String COME_REFUSED = "Throws `IllegalStateException` if 30 came, or 12 stand in the line";

    @Says(in = "12", words = COME_REFUSED)
    void promise12_29came() {
        x = day("W3202020" + "c00".repeat(11) + "c01".repeat(11) + "c02".repeat(7));
        is(29, () -> x.come(0, 1));
    }

    @Says(in = "12", words = COME_REFUSED)
    void promise12_30came() {
        refused(STATE, Edges::thirty, y -> y.come(2, 0));
    }

    @Says(in = "12", words = COME_REFUSED)
    void promise12_30cameAndTheLineIsEmpty() {
        refused(STATE, () -> {
            StoodMinutes y = thirty();
            for (int p = 24; p < 30; p++) {
                y.go(p);
            }
            return y;
        }, y -> y.come(2, 2));
    }

    @Says(in = "12", words = COME_REFUSED)
    void promise12_11standInTheLine() {
        x = Seen.withPeople(11);
        is(11, () -> x.come(0, 0));
    }

    @Says(in = "12", words = COME_REFUSED)
    void promise12_12standInTheLine() {
        refused(STATE, () -> Seen.withPeople(12), y -> y.come(0, 0));
    }

    @Says(in = "12", words = COME_REFUSED)
    void promise12_12standInAnotherLine() {
        x = Seen.withPeople(12);
        x.open(3);
        is(12, () -> x.come(1, 0));
    }

    @Says(in = "12", words = COME_REFUSED)
    void promise12_12standInTheLineByAMerging() {
        refused(STATE, () -> {
            StoodMinutes y = day("W22020" + "c00c01".repeat(6));
            y.merge(1, 0);
            return y;
        }, y -> y.come(1, 0));
    }

    // ---- promise 13

    private static final String GO = "Someone goes away; those behind come one place forward.";
    private static final String GO_REFUSED = "Throws `IllegalStateException` if it does not stand";

    @Says(in = "13", words = {GO, "`p`: person", "Returns the minutes stood."})
    void promise13_theOnlyOne() {
        x = day("W120c00t9");
        is(9, () -> x.go(0));
        row(0);
    }

    @Says(in = "13", words = GO)
    void promise13_theFirstOfAFullLine() {
        x = Seen.withPeople(12);
        is(0, () -> x.go(0));
        row(0, 1, 2, 3, 4, 5, 6, 7, 8, 9, 10, 11);
    }

    @Says(in = "13", words = GO)
    void promise13_theLastOfAFullLine() {
        x = Seen.withPeople(12);
        is(0, () -> x.go(11));
        row(0, 0, 1, 2, 3, 4, 5, 6, 7, 8, 9, 10);
    }

    @Says(in = "13", words = GO)
    void promise13_oneInTheMiddle() {
        x = Seen.withPeople(5);
        x.go(2);
        row(0, 0, 1, 3, 4);
        is(2, () -> x.person(3, 2));
        is(3, () -> x.person(4, 2));
    }

    @Says(in = "13", words = "Returns the minutes stood.")
    void promise13_inTheMinuteInWhichItCame() {
        x.minutes(5);
        x.come(0, 0);
        is(0, () -> x.go(0));
    }

    @Says(in = "13", words = "Returns the minutes stood.")
    void promise13_aMinuteBeforeItWouldBeServed() {
        x = day("W120c00c00");
        x.minutes(39);
        is(39, () -> x.go(1));
    }

    @Says(in = "13", words = NO_PERSON)
    void promise13_p_minus1() {
        refused(INDEX, Edges::lived, y -> y.go(-1));
    }

    @Says(in = "13", words = NO_PERSON)
    void promise13_p_theNumberOfPeople() {
        refused(INDEX, StoodMinutes::new, y -> y.go(0));
        refused(INDEX, Edges::lived, y -> y.go(7));
        refused(INDEX, Edges::thirty, y -> y.go(30));
    }

    @Says(in = "13", words = NO_PERSON)
    void promise13_p_farOutOfRange() {
        for (int p : FAR) {
            refused(INDEX, Edges::lived, y -> y.go(p));
        }
    }

    @Says(in = "13", words = GO_REFUSED)
    void promise13_oneWhoIsServed() {
        refused(STATE, () -> day("W101c00c00t1"), y -> y.go(0));
    }

    @Says(in = "13", words = GO_REFUSED)
    void promise13_oneWhoIsGone() {
        refused(STATE, Edges::lived, y -> y.go(4));
    }

    // ---- promise 14

    private static final String NO_EXCHANGE = "Throws `IllegalStateException` if they do not stand in the same line, "
            + "q does not stand ahead of p, or the account of p would fall too low";

    @Says(in = "14", words = {"Two exchange their places.", "`p`: person who goes forward", "`q`: another person",
        "Returns what p pays q."})
    void promise14_neighbours() {
        x = day("W120c00c00t2");
        is(2, () -> x.exchange(1, 0));
        row(0, 1, 0);
    }

    @Says(in = "14", words = "Returns what p pays q.")
    void promise14_theLeastPay_1() {
        x = day("W120c00c00t1");
        x.set(2, 1);
        is(1, () -> x.exchange(1, 0));
    }

    @Says(in = "14", words = "Returns what p pays q.")
    void promise14_theGreatestPay_99() {
        // each line serves 4 in 99 minutes; the other 12 have stood them all
        x = day("W22020" + "c00".repeat(12) + "c01".repeat(8));
        x.minutes(60);
        x.minutes(39);
        x.merge(0, 1);
        is(12, () -> x.line(0, 1));
        x.set(2, 9);
        is(99, () -> x.exchange(x.at(0, 11), x.at(0, 0)));
    }

    @Says(in = "14", words = NO_PERSON)
    void promise14_p_isNoPerson() {
        refused(INDEX, Edges::lived, y -> y.exchange(-1, 0));
        refused(INDEX, Edges::lived, y -> y.exchange(7, 0));
        refused(INDEX, Edges::thirty, y -> y.exchange(30, 0));
        for (int p : FAR) {
            refused(INDEX, Edges::lived, y -> y.exchange(p, 0));
        }
    }

    @Says(in = "14", words = NO_PERSON)
    void promise14_q_isNoPerson() {
        refused(INDEX, Edges::lived, y -> y.exchange(1, -1));
        refused(INDEX, Edges::lived, y -> y.exchange(1, 7));
        refused(INDEX, Edges::thirty, y -> y.exchange(1, 30));
        for (int q : FAR) {
            refused(INDEX, Edges::lived, y -> y.exchange(1, q));
        }
    }

    @Says(in = "14", words = NO_EXCHANGE)
    void promise14_inTwoLines() {
        refused(STATE, () -> day("W22020c00c00c01c01t9"), y -> y.exchange(3, 0));
        refused(STATE, () -> day("W22020c00c00c01c01t9"), y -> y.exchange(1, 2));
    }

    @Says(in = "14", words = NO_EXCHANGE)
    void promise14_oneWhoIsServed() {
        refused(STATE, () -> day("W103c00c00t4"), y -> y.exchange(1, 0));
        refused(STATE, () -> day("W103c00c00t4"), y -> y.exchange(0, 1));
        refused(STATE, () -> day("W103c00c00t9"), y -> y.exchange(1, 0));
    }

    @Says(in = "14", words = NO_EXCHANGE)
    void promise14_oneWhoIsGone() {
        refused(STATE, () -> day("W120c00c00t9g00"), y -> y.exchange(1, 0));
        refused(STATE, () -> day("W120c00c00t9g01"), y -> y.exchange(1, 0));
        refused(STATE, () -> day("W120c00c00t9g00g01"), y -> y.exchange(1, 0));
    }

    @Says(in = "14", words = NO_EXCHANGE)
    void promise14_oneBehind() {
        refused(STATE, () -> day("W120c00c00t9"), y -> y.exchange(0, 1));
    }

    @Says(in = "14", words = NO_EXCHANGE)
    void promise14_withOneself() {
        refused(STATE, () -> day("W120c00c00t9"), y -> y.exchange(0, 0));
        refused(STATE, () -> day("W120c00c00t9"), y -> y.exchange(1, 1));
    }

    @Says(in = "14", words = NO_EXCHANGE)
    void promise14_theAccountJustDoesNotFallTooLow() {
        x = day("W120c00c00c00t4");
        is(4, () -> x.exchange(2, 0));
    }

    @Says(in = "14", words = NO_EXCHANGE)
    void promise14_theAccountJustFallsTooLow() {
        refused(STATE, () -> day("W120c00c00c00t3"), y -> y.exchange(2, 0));
    }

    @Says(in = "14", words = NO_EXCHANGE)
    void promise14_theAccountOfQMayBeAsLowAsItLikes() {
        x = day("W120c00c00c00c20");
        x.set(3, 5);
        x.set(2, 9);
        x.jump(3);
        is(-27, () -> x.person(3, 4));
        x.set(2, 1);
        is(1, () -> x.exchange(0, 3));
        is(-26, () -> x.person(3, 4));
    }

    // ---- promise 15

    private static final String NO_JUMP = "Throws `IllegalStateException` if it does not stand, is plain, is first, "
            + "or jumped less than 5 minutes ago";

    @Says(in = "15", words = {"Someone jumps.", "`p`: person", "Returns how many are passed."})
    void promise15_1isPassed() {
        x = day("W120c00c10");
        is(1, () -> x.jump(1));
        row(0, 1, 0);
    }

    @Says(in = "15", words = "Returns how many are passed.")
    void promise15_5arePassed() {
        x = day("W120" + "c00".repeat(11) + "c20");
        x.set(3, 5);
        is(5, () -> x.jump(11));
        row(0, 0, 1, 2, 3, 4, 5, 11, 6, 7, 8, 9, 10);
    }

    @Says(in = "15", words = "Returns how many are passed.")
    void promise15_fewerArePassedThanTheJumpTells() {
        x = day("W120c00c00c00c20");
        x.set(3, 5);
        is(3, () -> x.jump(3));
        row(0, 3, 0, 1, 2);
    }

    @Says(in = "15", words = NO_PERSON)
    void promise15_p_minus1() {
        refused(INDEX, Edges::lived, y -> y.jump(-1));
    }

    @Says(in = "15", words = NO_PERSON)
    void promise15_p_theNumberOfPeople() {
        refused(INDEX, StoodMinutes::new, y -> y.jump(0));
        refused(INDEX, Edges::lived, y -> y.jump(7));
        refused(INDEX, Edges::thirty, y -> y.jump(30));
    }

    @Says(in = "15", words = NO_PERSON)
    void promise15_p_farOutOfRange() {
        for (int p : FAR) {
            refused(INDEX, Edges::lived, y -> y.jump(p));
        }
    }

    @Says(in = "15", words = NO_JUMP)
    void promise15_oneWhoIsServed() {
        refused(STATE, () -> day("W103c00c10c00t6"), y -> y.jump(1));
    }

    @Says(in = "15", words = NO_JUMP)
    void promise15_oneWhoIsGone() {
        refused(STATE, () -> day("W103c00c10c00g01"), y -> y.jump(1));
    }

    @Says(in = "15", words = NO_JUMP)
    void promise15_aPlainOne() {
        refused(STATE, () -> day("W103c10c00c20"), y -> y.jump(1));
    }

    @Says(in = "15", words = NO_JUMP)
    void promise15_theFirstOne() {
        refused(STATE, () -> day("W103c10c00c20"), y -> y.jump(0));
        refused(STATE, () -> day("W103c20"), y -> y.jump(0));
    }

    @Says(in = "15", words = NO_JUMP)
    void promise15_oneWhoBecameTheFirstOne() {
        refused(STATE, () -> day("W103c00c10t3"), y -> y.jump(1));
        refused(STATE, () -> day("W103c00c10g00"), y -> y.jump(1));
    }

    private static StoodMinutes jumped(int minutesAgo) {
        return day("W120" + "c00".repeat(5) + "c10" + "j05" + (minutesAgo == 0 ? "" : "t" + minutesAgo));
    }

    @Says(in = "15", words = NO_JUMP)
    void promise15_jumped0MinutesAgo() {
        refused(STATE, () -> jumped(0), y -> y.jump(5));
    }

    @Says(in = "15", words = NO_JUMP)
    void promise15_jumped4MinutesAgo() {
        refused(STATE, () -> jumped(4), y -> y.jump(5));
    }

    @Says(in = "15", words = NO_JUMP)
    void promise15_jumped5MinutesAgo() {
        x = jumped(5);
        is(2, () -> x.jump(5));
        row(0, 0, 5, 1, 2, 3, 4);
    }

    @Says(in = "15", words = NO_JUMP)
    void promise15_jumped4MinutesAgoInAnotherLine() {
        refused(STATE, () -> {
            StoodMinutes y = day("W22020" + "c00".repeat(5) + "c10" + "j05t4");
            y.merge(1, 0);
            return y;
        }, y -> y.jump(5));
    }

    // ---- promise 16

    private static final String SAME_LINES = "Throws `IllegalArgumentException` if both are the same";
    private static final String TOO_MANY = "Throws `IllegalStateException` if more than 12 would stand in it";

    @Says(in = "16", words = {"Merges two lines.", "`l`: line in which all stand then", "`other`: another line",
        "Returns how many stand in l then."})
    void promise16_twoEmptyLines() {
        x.open(4);
        is(0, () -> x.merge(0, 1));
        is(0, () -> x.merge(1, 0));
    }

    @Says(in = "16", words = "Returns how many stand in l then.")
    void promise16_anEmptyLineAndAnotherOne() {
        x = day("W22020c00");
        is(1, () -> x.merge(1, 0));
        row(0);
        row(1, 0);
        is(1, () -> x.person(0, 1));
        is(1, () -> x.merge(1, 0));
        row(1, 0);
    }

    @Says(in = "16", words = "Returns how many stand in l then.")
    void promise16_aFullLineAndAnEmptyOne() {
        x = Seen.withPeople(12);
        x.open(4);
        is(12, () -> x.merge(0, 1));
        is(12, () -> x.merge(1, 0));
        row(0);
        row(1, 0, 1, 2, 3, 4, 5, 6, 7, 8, 9, 10, 11);
    }

    @Says(in = "16", words = "Returns how many stand in l then.")
    void promise16_thoseWhoAreServedOrGoneDoNotCount() {
        x = day("W20303" + "c00c01".repeat(7) + "t3g02");
        is(11, () -> x.merge(0, 1));
    }

    @Says(in = "16", words = NO_LINE)
    void promise16_l_isNoLine() {
        refused(INDEX, Edges::lived, y -> y.merge(-1, 0));
        refused(INDEX, Edges::lived, y -> y.merge(2, 0));
        refused(INDEX, Edges::thirty, y -> y.merge(3, 0));
        for (int l : FAR) {
            refused(INDEX, Edges::lived, y -> y.merge(l, 0));
        }
    }

    @Says(in = "16", words = NO_LINE)
    void promise16_other_isNoLine() {
        refused(INDEX, StoodMinutes::new, y -> y.merge(0, 1));
        refused(INDEX, Edges::lived, y -> y.merge(0, -1));
        refused(INDEX, Edges::lived, y -> y.merge(0, 2));
        refused(INDEX, Edges::thirty, y -> y.merge(0, 3));
        for (int other : FAR) {
            refused(INDEX, Edges::lived, y -> y.merge(0, other));
        }
    }

    @Says(in = "16", words = SAME_LINES)
    void promise16_theSameLine() {
        refused(ARGUMENT, StoodMinutes::new, y -> y.merge(0, 0));
        refused(ARGUMENT, Edges::lived, y -> y.merge(1, 1));
        refused(ARGUMENT, Edges::thirty, y -> y.merge(2, 2));
    }

    @Says(in = "16", words = TOO_MANY)
    void promise16_just12() {
        x = day("W22020" + "c00".repeat(7) + "c01".repeat(5));
        is(12, () -> x.merge(1, 0));
        row(1, 0, 1, 2, 3, 4, 5, 6, 7, 8, 9, 10, 11);
    }

    @Says(in = "16", words = TOO_MANY)
    void promise16_13() {
        refused(STATE, () -> day("W22020" + "c00".repeat(7) + "c01".repeat(6)), y -> y.merge(1, 0));
        refused(STATE, () -> day("W22020" + "c00".repeat(12) + "c01"), y -> y.merge(0, 1));
        refused(STATE, () -> day("W22020" + "c00".repeat(12) + "c01"), y -> y.merge(1, 0));
    }

    @Says(in = "16", words = TOO_MANY)
    void promise16_24() {
        refused(STATE, Edges::thirty, y -> y.merge(0, 1));
    }

    // ---- promise 17

    private static final String MINUTES_RANGE = "Throws `IllegalArgumentException` if n is out of range";

    @Says(in = "17", words = {"Lets minutes go by.", "`n`: 1 to 60", "Returns how many are served in them."})
    void promise17_n_least1() {
        x = day("W3010102c00c00c01c02");
        is(2, () -> x.minutes(1));
        is(1, () -> x.about(0));
    }

    @Says(in = "17", words = {"`n`: 1 to 60", "Returns how many are served in them."})
    void promise17_n_most60() {
        x = day("W3202020" + "c00".repeat(4) + "c01".repeat(4));
        is(6, () -> x.minutes(60));
        is(60, () -> x.about(0));
    }

    @Says(in = "17", words = "Returns how many are served in them.")
    void promise17_nobodyIsThere() {
        is(0, () -> x.minutes(60));
    }

    @Says(in = "17", words = "Returns how many are served in them.")
    void promise17_thirtyAreServed() {
        x = day("W3010203" + "c00".repeat(12) + "c01".repeat(12) + "c02".repeat(6));
        is(30, () -> x.minutes(24));
    }

    @Says(in = "17", words = MINUTES_RANGE)
    void promise17_n_0() {
        refused(ARGUMENT, Edges::lived, y -> y.minutes(0));
    }

    @Says(in = "17", words = MINUTES_RANGE)
    void promise17_n_61() {
        refused(ARGUMENT, Edges::lived, y -> y.minutes(61));
    }

    @Says(in = "17", words = MINUTES_RANGE)
    void promise17_n_farOutOfRange() {
        refused(ARGUMENT, Edges::lived, y -> y.minutes(-1));
        for (int n : FAR) {
            refused(ARGUMENT, Edges::lived, y -> y.minutes(n));
        }
    }

    // ---- promise 18

    private static final String SET_RANGE = "Throws `IllegalArgumentException` if what or v is out of range";

    /** The ends of a setting's range are taken, and the values just behind them are refused. */
    private void range(int what, int atFirst, int least, int most) {
        is(atFirst, () -> x.set(what, least));
        is(least, () -> x.setting(what));
        is(least, () -> x.set(what, most));
        is(most, () -> x.setting(what));
        refused(ARGUMENT, Edges::lived, y -> y.set(what, least - 1));
        refused(ARGUMENT, Edges::lived, y -> y.set(what, most + 1));
    }

    @Says(in = "18", words = {"Changes a setting.", "`what`: 0 to 3", "`v`: the new value, in its range",
        "Returns the previous one."})
    void promise18_0_10to99() {
        range(0, 30, 10, 99);
    }

    @Says(in = "18", words = "`v`: the new value, in its range")
    void promise18_1_0to50() {
        range(1, 5, 0, 50);
    }

    @Says(in = "18", words = "`v`: the new value, in its range")
    void promise18_2_1to9() {
        range(2, 2, 1, 9);
    }

    @Says(in = "18", words = {"`what`: 0 to 3", "`v`: the new value, in its range"})
    void promise18_3_1to5() {
        range(3, 2, 1, 5);
    }

    @Says(in = "18", words = "Changes a setting.")
    void promise18_theOthersStay() {
        x.set(1, 50);
        x.set(2, 9);
        is(30, () -> x.setting(0));
        is(50, () -> x.setting(1));
        is(9, () -> x.setting(2));
        is(2, () -> x.setting(3));
    }

    @Says(in = "18", words = "Returns the previous one.")
    void promise18_theSameValue() {
        is(30, () -> x.set(0, 30));
        is(30, () -> x.set(0, 30));
    }

    @Says(in = "18", words = SET_RANGE)
    void promise18_what_minus1() {
        refused(ARGUMENT, Edges::lived, y -> y.set(-1, 5));
    }

    @Says(in = "18", words = SET_RANGE)
    void promise18_what_4() {
        refused(ARGUMENT, Edges::lived, y -> y.set(4, 5));
    }

    @Says(in = "18", words = SET_RANGE)
    void promise18_what_farOutOfRange() {
        for (int what : FAR) {
            refused(ARGUMENT, Edges::lived, y -> y.set(what, 5));
        }
    }

    @Says(in = "18", words = SET_RANGE)
    void promise18_v_farOutOfRange() {
        for (int what = 0; what <= 3; what++) {
            for (int v : FAR) {
                int w = what;
                refused(ARGUMENT, Edges::lived, y -> y.set(w, v));
            }
        }
    }

    @Says(in = "18", words = SET_RANGE)
    void promise18_bothOutOfRange() {
        refused(ARGUMENT, Edges::lived, y -> y.set(4, -1));
        refused(ARGUMENT, Edges::lived, y -> y.set(-1, 100));
    }
}
