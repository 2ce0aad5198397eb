import java.util.function.Supplier;

/** The promises 20 to 26: what would be, if only minutes went by. */
final class ForesightEdgesTest extends Edges {
    private static final int[] FAR = {Integer.MIN_VALUE, Integer.MAX_VALUE};
    private static final String NO_LINE = "Throws `IndexOutOfBoundsException` if there is no such line";
    private static final String NO_PERSON = "Throws `IndexOutOfBoundsException` if there is no such person";

    public static void main(String[] args) {
        run(ForesightEdgesTest.class);
    }

    /** Twelve who have stood 99 minutes, in lines of the pace 20; and a third, empty line. */
    private static StoodMinutes longStood(int paceOfTheThird) {
        StoodMinutes y = day("W32020" + (paceOfTheThird < 10 ? "0" : "") + paceOfTheThird
                + "c00".repeat(12) + "c01".repeat(8));
        y.minutes(60);
        y.minutes(39);
        return y;
    }

    // ---- promise 20

    private static final String SERVED_IN = "Returns in how many minutes, 1 or more.";
    private static final String STANDS_NOT = "Throws `IllegalStateException` if it does not stand";

    @Says(in = "20", words = {SERVED_IN, "Tells when someone is served.", "`p`: person"})
    void promise20_least1_byThePace1() {
        x = day("W101c00");
        is(1, () -> x.servedIn(0));
    }

    @Says(in = "20", words = SERVED_IN)
    void promise20_least1_byACounterThatJustEnds() {
        x = day("W120c00c00t9t9t1");
        is(1, () -> x.servedIn(0));
        is(21, () -> x.servedIn(1));
    }

    @Says(in = "20", words = SERVED_IN)
    void promise20_theFirstOneOfANewCounter() {
        x = day("W120c00");
        is(20, () -> x.servedIn(0));
    }

    @Says(in = "20", words = SERVED_IN)
    void promise20_theLastOfAFullSlowLine() {
        x = day("W120" + "c00".repeat(12));
        is(240, () -> x.servedIn(11));
    }

    @Says(in = "20", words = SERVED_IN)
    void promise20_inThatMinuteAndNotBefore() {
        for (int p = 0; p < 12; p++) {
            StoodMinutes y = day("W3030720" + "c00c01c02".repeat(4) + "t5");
            int one = p;
            if (y.person(p, 6) == 0) {
                int wait = y.servedIn(p);
                for (int minute = 1; minute < wait; minute++) {
                    y.minutes(1);
                }
                is(0, () -> y.person(one, 6));
                is(1, () -> y.servedIn(one));
                y.minutes(1);
                is(1, () -> y.person(one, 6));
            }
        }
    }

    @Says(in = "20", words = NO_PERSON)
    void promise20_p_minus1() {
        refused(INDEX, Edges::lived, y -> y.servedIn(-1));
    }

    @Says(in = "20", words = NO_PERSON)
    void promise20_p_theNumberOfPeople() {
        refused(INDEX, StoodMinutes::new, y -> y.servedIn(0));
        refused(INDEX, Edges::lived, y -> y.servedIn(7));
        refused(INDEX, Edges::thirty, y -> y.servedIn(30));
    }

    @Says(in = "20", words = NO_PERSON)
    void promise20_p_farOutOfRange() {
        for (int p : FAR) {
            refused(INDEX, Edges::lived, y -> y.servedIn(p));
        }
    }

    @Says(in = "20", words = STANDS_NOT)
    void promise20_oneWhoIsServed() {
        refused(STATE, () -> day("W101c00c00t1"), y -> y.servedIn(0));
    }

    @Says(in = "20", words = STANDS_NOT)
    void promise20_oneWhoIsGone() {
        refused(STATE, Edges::lived, y -> y.servedIn(4));
    }

    // ---- promise 21

    private static final String WILL_PAY = "Returns what it pays in the next n minutes.";
    private static final String WILL_PAY_RANGE = "Throws `IllegalArgumentException` if n is out of range";

    @Says(in = "21", words = {WILL_PAY, "Tells what the house will pay.", "`n`: 1 to 999"})
    void promise21_n_least1() {
        x = day("W120c00c00");
        x.minutes(29);
        is(5, () -> x.willPay(1));
    }

    @Says(in = "21", words = {WILL_PAY, "`n`: 1 to 999"})
    void promise21_n_most999() {
        x = day("W120" + "c00".repeat(12));
        // who stands at a place of this line is paid in the minutes 30, 40 and so on below 20, 40, 60 to 240
        int fees = 0;
        for (int served = 20; served <= 240; served += 20) {
            for (int paid = 30; paid < served; paid += 10) {
                fees += 5;
            }
        }
        int all = fees;
        is(all, () -> x.willPay(999));
        is(all, () -> x.willPay(239));
        is(all, () -> x.willPay(230));
        is(all - 5, () -> x.willPay(229));
    }

    @Says(in = "21", words = WILL_PAY)
    void promise21_nobodyIsThere() {
        is(0, () -> x.willPay(1));
        is(0, () -> x.willPay(999));
    }

    @Says(in = "21", words = WILL_PAY)
    void promise21_aMinuteBelowTheLimit_andAtIt() {
        x = day("W120c00c00");
        is(0, () -> x.willPay(29));
        is(5, () -> x.willPay(30));
    }

    @Says(in = "21", words = WILL_PAY)
    void promise21_oneWhoIsServedInTheMinuteOfTheFee() {
        x = day("W110c00c00c00");
        is(0, () -> x.willPay(30));
        is(0, () -> x.willPay(999));
    }

    @Says(in = "21", words = WILL_PAY)
    void promise21_oneWhoIsServedAMinuteLater() {
        x = day("W111c00");
        x.set(0, 10);
        is(5, () -> x.willPay(10));
        is(5, () -> x.willPay(11));
    }

    @Says(in = "21", words = WILL_PAY)
    void promise21_whatIsPaidAlreadyDoesNotCount() {
        x = day("W120c00c00c00");
        x.minutes(30);
        is(10, () -> x.about(8));
        is(0, () -> x.willPay(9));
        is(5, () -> x.willPay(10));
    }

    @Says(in = "21", words = WILL_PAY)
    void promise21_oneWhoHasStoodMoreThanALimitThatWasLowered() {
        x = day("W120c00c00");
        x.minutes(15);
        x.set(0, 15);
        is(0, () -> x.willPay(9));
        is(5, () -> x.willPay(10));
    }

    @Says(in = "21", words = WILL_PAY)
    void promise21_theLeastAndTheGreatestFee() {
        x = day("W120c00c00");
        x.set(1, 0);
        is(0, () -> x.willPay(999));
        x.set(1, 50);
        is(50, () -> x.willPay(999));
    }

    private void paysAsItSays(Supplier<StoodMinutes> made) {
        StoodMinutes asked = made.get();
        StoodMinutes goesOn = made.get();
        for (int n = 1; n <= 200; n++) {
            goesOn.minutes(1);
            int minutes = n;
            is(goesOn.about(8) - asked.about(8), () -> made.get().willPay(minutes));
        }
    }

    @Says(in = "21", words = WILL_PAY)
    void promise21_asMuchAsItPaysThen() {
        paysAsItSays(() -> day("W120" + "c00".repeat(12)));
        paysAsItSays(() -> day("W3031120" + "c00c01c02".repeat(5) + "t9c11c12c02j15j16"));
        paysAsItSays(() -> {
            StoodMinutes y = lived();
            y.set(0, 10);
            return y;
        });
    }

    @Says(in = "21", words = WILL_PAY_RANGE)
    void promise21_n_0() {
        refused(ARGUMENT, Edges::lived, y -> y.willPay(0));
    }

    @Says(in = "21", words = WILL_PAY_RANGE)
    void promise21_n_1000() {
        refused(ARGUMENT, Edges::lived, y -> y.willPay(1000));
    }

    @Says(in = "21", words = WILL_PAY_RANGE)
    void promise21_n_farOutOfRange() {
        refused(ARGUMENT, Edges::lived, y -> y.willPay(-1));
        for (int n : FAR) {
            refused(ARGUMENT, Edges::lived, y -> y.willPay(n));
        }
    }

    // ---- promise 22

    private static final String GAIN = "Returns servedIn(p) now, less servedIn(p) behind exchange(p, q), "
            + "less what p pays.";
    private static final String NO_GAIN = "Throws `IllegalStateException` if exchange() would throw it";

    @Says(in = "22", words = {GAIN, "Tells what someone gains by an exchange.", "`p`: person who goes forward",
        "`q`: another person"})
    void promise22_greatest() {
        x = day("W120" + "c00".repeat(12));
        x.minutes(11);
        x.set(2, 1);
        is(11 * 20 - 11, () -> x.gain(11, 0));
    }

    @Says(in = "22", words = GAIN)
    void promise22_least_below0() {
        x = longStood(1);
        x.merge(2, 0);
        x.merge(2, 1);
        x.set(2, 9);
        is(11 - 99, () -> x.gain(x.at(2, 11), x.at(2, 0)));
    }

    @Says(in = "22", words = GAIN)
    void promise22_just0() {
        x = day("W102c00c00t1c00t1c00t1");
        is(0, () -> x.gain(2, 1));
    }

    @Says(in = "22", words = GAIN)
    void promise22_asAnExchangeShows() {
        x = day("W20720" + "c00".repeat(6) + "t6");
        int told = x.gain(4, 1);
        int before = x.servedIn(4);
        int paid = x.exchange(4, 1);
        is(before - x.servedIn(4) - paid, () -> told);
    }

    @Says(in = "22", words = NO_PERSON)
    void promise22_p_isNoPerson() {
        refused(INDEX, Edges::lived, y -> y.gain(-1, 0));
        refused(INDEX, Edges::lived, y -> y.gain(7, 0));
        refused(INDEX, Edges::thirty, y -> y.gain(30, 0));
        for (int p : FAR) {
            refused(INDEX, Edges::lived, y -> y.gain(p, 0));
        }
    }

    @Says(in = "22", words = NO_PERSON)
    void promise22_q_isNoPerson() {
        refused(INDEX, Edges::lived, y -> y.gain(1, -1));
        refused(INDEX, Edges::lived, y -> y.gain(1, 7));
        refused(INDEX, Edges::thirty, y -> y.gain(1, 30));
        for (int q : FAR) {
            refused(INDEX, Edges::lived, y -> y.gain(1, q));
        }
    }

    @Says(in = "22", words = NO_GAIN)
    void promise22_inTwoLines() {
        refused(STATE, () -> day("W22020c00c00c01c01t9"), y -> y.gain(3, 0));
    }

    @Says(in = "22", words = NO_GAIN)
    void promise22_oneWhoStandsNoLonger() {
        refused(STATE, () -> day("W103c00c00c00t4"), y -> y.gain(1, 0));
        refused(STATE, () -> day("W103c00c00c00t4"), y -> y.gain(0, 1));
        refused(STATE, () -> day("W120c00c00c00t9g00"), y -> y.gain(1, 0));
        refused(STATE, () -> day("W120c00c00c00t9g01"), y -> y.gain(1, 0));
    }

    @Says(in = "22", words = NO_GAIN)
    void promise22_oneBehind_andOneself() {
        refused(STATE, () -> day("W120c00c00t9"), y -> y.gain(0, 1));
        refused(STATE, () -> day("W120c00c00t9"), y -> y.gain(1, 1));
    }

    @Says(in = "22", words = NO_GAIN)
    void promise22_theAccountJustFallsTooLow_orJustDoesNot() {
        refused(STATE, () -> day("W120c00c00c00t3"), y -> y.gain(2, 0));
        x = day("W120c00c00c00t4");
        is(40 - 4, () -> x.gain(2, 0));
    }

    // ---- promise 23

    private static final String PARTNER = "Returns the person q for whom gain(p, q) is greatest (perhaps below 0), "
            + "among several the lowest; NONE if p can exchange with none.";

    @Says(in = "23", words = {PARTNER, "Finds the best partner.", "`p`: person"})
    void promise23_theFirstOneHasNone() {
        x = day("W120c00c00t9");
        is(-1, () -> x.partner(0));
    }

    @Says(in = "23", words = PARTNER)
    void promise23_theSecondOneHasOne() {
        x = day("W120c00c00t2");
        is(0, () -> x.partner(1));
    }

    @Says(in = "23", words = PARTNER)
    void promise23_oneWhoCanJustNotPayHasNone() {
        x = day("W120c00c00t1");
        is(-1, () -> x.partner(1));
    }

    @Says(in = "23", words = PARTNER)
    void promise23_theFurthestOneWhoCanJustBePaid() {
        x = day("W120" + "c00".repeat(6) + "t5");
        is(3, () -> x.partner(5));
        x.minutes(1);
        is(2, () -> x.partner(5));
    }

    @Says(in = "23", words = PARTNER)
    void promise23_oneWhoStandsNoLongerHasNone() {
        x = day("W103c00c00c00t3g02");
        is(-1, () -> x.partner(0));
        is(-1, () -> x.partner(2));
    }

    @Says(in = "23", words = PARTNER)
    void promise23_oneAloneInALineHasNone() {
        x = day("W22020c00c00c01t9");
        is(-1, () -> x.partner(2));
    }

    @Says(in = "23", words = PARTNER)
    void promise23_ofGainsAlikeTheLowest() {
        // the price of a place is the pace
        x = day("W20120" + "c01".repeat(4) + "t3");
        x.merge(0, 1);
        x.set(2, 1);
        is(0, () -> x.gain(3, 0));
        is(0, () -> x.gain(3, 1));
        is(0, () -> x.gain(3, 2));
        is(0, () -> x.partner(3));
        x.exchange(2, 0);
        is(0, () -> x.partner(3));
    }

    @Says(in = "23", words = PARTNER)
    void promise23_ofGainsThatDifferTheGreatest_thoughAnotherOneIsLower() {
        x = day("W120c00c00c00t6");
        x.exchange(1, 0);
        row(0, 1, 0, 2);
        is(1, () -> x.partner(2));
    }

    @Says(in = "23", words = PARTNER)
    void promise23_aGainBelow0() {
        x = day("W20120" + "c01".repeat(4) + "t9");
        x.merge(0, 1);
        x.set(2, 3);
        is(-2, () -> x.gain(3, 2));
        is(-6, () -> x.gain(3, 0));
        is(2, () -> x.partner(3));
    }

    @Says(in = "23", words = NO_PERSON)
    void promise23_p_minus1() {
        refused(INDEX, Edges::lived, y -> y.partner(-1));
    }

    @Says(in = "23", words = NO_PERSON)
    void promise23_p_theNumberOfPeople() {
        refused(INDEX, StoodMinutes::new, y -> y.partner(0));
        refused(INDEX, Edges::lived, y -> y.partner(7));
        refused(INDEX, Edges::thirty, y -> y.partner(30));
    }

    @Says(in = "23", words = NO_PERSON)
    void promise23_p_farOutOfRange() {
        for (int p : FAR) {
            refused(INDEX, Edges::lived, y -> y.partner(p));
        }
    }

    // ---- promise 24

    private static final String BEST = "Returns the line in which one who came now would be served soonest, if only "
            + "minutes went by, among several the lowest; NONE if in no line one can stand, or 30 came.";

    private void best(int l, String text) {
        StoodMinutes y = day(text);
        is(l, y::bestLine);
    }

    @Says(in = "24", words = {BEST, "Tells which line would be best for someone who comes."})
    void promise24_theOnlyLine() {
        is(0, x::bestLine);
        x = Seen.withPeople(11);
        is(0, x::bestLine);
    }

    @Says(in = "24", words = BEST)
    void promise24_ofLinesAlikeTheLowest() {
        best(0, "W3030303");
        best(1, "W3030303c00");
        best(1, "W3200303");
        best(1, "W3040204" + "c00c01c02");
    }

    @Says(in = "24", words = BEST)
    void promise24_aMinuteSooner() {
        best(2, "W3040403");
        best(1, "W20304c00t1");
        best(0, "W20304c00t2");
    }

    @Says(in = "24", words = BEST)
    void promise24_theMinutesThatACounterKeptCount() {
        best(1, "W20202c01t1g00");
    }

    @Says(in = "24", words = BEST)
    void promise24_aFullLineIsNone() {
        best(1, "W20120" + "c00".repeat(12));
        best(0, "W20120" + "c00".repeat(11));
    }

    @Says(in = "24", words = BEST)
    void promise24_allLinesAreFull() {
        best(-1, "W103" + "c00".repeat(12));
        best(-1, "W20303" + "c00".repeat(12) + "c01".repeat(12));
    }

    @Says(in = "24", words = BEST)
    void promise24_29cameAnd30() {
        best(2, "W3202020" + "c00".repeat(12) + "c01".repeat(12) + "c02".repeat(5));
        best(-1, "W3202020" + "c00".repeat(12) + "c01".repeat(12) + "c02".repeat(6));
    }

    @Says(in = "24", words = BEST)
    void promise24_30cameAndAllAreServed() {
        x = day("W3010101" + "c00".repeat(12) + "c01".repeat(12) + "c02".repeat(6));
        x.minutes(12);
        is(-1, x::bestLine);
    }

    // ---- promise 25

    private static final String LONGEST = "Returns the person, of those who stand, who will have stood most when it "
            + "is served, among several the lowest; NONE if nobody stands.";

    private void longest(int p, String text) {
        StoodMinutes y = day(text);
        is(p, y::longest);
    }

    @Says(in = "25", words = {LONGEST, "Finds who will wait longest."})
    void promise25_nobodyCame() {
        is(-1, x::longest);
    }

    @Says(in = "25", words = LONGEST)
    void promise25_nobodyStandsAnyLonger() {
        longest(-1, "W103c00t3");
        longest(-1, "W103c00g00");
    }

    @Says(in = "25", words = LONGEST)
    void promise25_theOnlyOne() {
        longest(0, "W103c00");
        longest(1, "W103c00t2c00t1");
    }

    @Says(in = "25", words = LONGEST)
    void promise25_theThirtiethPerson() {
        longest(29, "W3010120" + "c00".repeat(12) + "c01".repeat(12) + "c02".repeat(6));
    }

    @Says(in = "25", words = LONGEST)
    void promise25_ofThoseAlikeTheLowest() {
        longest(0, "W20606c00c01");
        longest(1, "W20306c00c01c00");
        longest(0, "W20306c01c00c00");
    }

    @Says(in = "25", words = LONGEST)
    void promise25_aMinuteMore() {
        longest(1, "W20607c00c01");
        longest(2, "W20307c00c00c01");
    }

    @Says(in = "25", words = LONGEST)
    void promise25_whatIsStoodAlreadyCounts() {
        // 0 has stood 5 of 20 minutes; 1 will stand 19 of the pace 19
        longest(0, "W22019c00t5c01");
        longest(0, "W22020c00t5c01");
    }

    // ---- promise 26

    private static final String SAVED = "Returns the sum of servedIn() of all who stand in any line, now, less the "
            + "same behind merge(l, other).";
    private static final String SAME_LINES = "Throws `IllegalArgumentException` if both are the same";
    private static final String TOO_MANY = "Throws `IllegalStateException` if more than 12 would stand in it";

    @Says(in = "26", words = {SAVED, "Tells what a merging would save.", "`l`: line", "`other`: another line"})
    void promise26_twoEmptyLines() {
        x = day("W3030303c02");
        is(0, () -> x.saved(0, 1));
    }

    @Says(in = "26", words = SAVED)
    void promise26_theOtherOneIsEmpty() {
        x = day("W22020c00c00t5x0100");
        is(0, () -> x.saved(0, 1));
    }

    @Says(in = "26", words = SAVED)
    void promise26_theOneIsEmpty() {
        x = day("W20120" + "c01".repeat(12));
        is(19 * 78, () -> x.saved(0, 1));
        x = day("W20120" + "c00".repeat(12));
        is(-19 * 78, () -> x.saved(1, 0));
    }

    @Says(in = "26", words = SAVED)
    void promise26_theMinutesThatTheOneKept() {
        x = day("W22020c00c01t9g00");
        is(11 - 11, () -> x.saved(0, 1));
        x.minutes(5);
        is(6 - 11, () -> x.saved(0, 1));
    }

    private static int allWaits(StoodMinutes y) {
        int sum = 0;
        for (int p = 0; p < y.about(2); p++) {
            sum += y.person(p, 6) == 0 ? y.servedIn(p) : 0;
        }
        return sum;
    }

    @Says(in = "26", words = SAVED)
    void promise26_asAMergingShows() {
        for (int l = 0; l < 3; l++) {
            for (int other = 0; other < 3; other++) {
                if (l != other) {
                    StoodMinutes y = day("W3030720" + "c00c01c02".repeat(5) + "t4g01");
                    int one = l;
                    int two = other;
                    int told = y.saved(one, two);
                    int before = allWaits(y);
                    y.merge(one, two);
                    is(before - allWaits(y), () -> told);
                }
            }
        }
    }

    @Says(in = "26", words = NO_LINE)
    void promise26_l_isNoLine() {
        refused(INDEX, Edges::lived, y -> y.saved(-1, 0));
        refused(INDEX, Edges::lived, y -> y.saved(2, 0));
        refused(INDEX, Edges::thirty, y -> y.saved(3, 0));
        for (int l : FAR) {
            refused(INDEX, Edges::lived, y -> y.saved(l, 0));
        }
    }

    @Says(in = "26", words = NO_LINE)
    void promise26_other_isNoLine() {
        refused(INDEX, StoodMinutes::new, y -> y.saved(0, 1));
        refused(INDEX, Edges::lived, y -> y.saved(0, -1));
        refused(INDEX, Edges::lived, y -> y.saved(0, 2));
        refused(INDEX, Edges::thirty, y -> y.saved(0, 3));
        for (int other : FAR) {
            refused(INDEX, Edges::lived, y -> y.saved(0, other));
        }
    }

    @Says(in = "26", words = SAME_LINES)
    void promise26_theSameLine() {
        refused(ARGUMENT, StoodMinutes::new, y -> y.saved(0, 0));
        refused(ARGUMENT, Edges::lived, y -> y.saved(1, 1));
    }

    @Says(in = "26", words = TOO_MANY)
    void promise26_just12() {
        x = day("W22020" + "c00".repeat(7) + "c01".repeat(5));
        is(20 * (28 + 15 - 78), () -> x.saved(0, 1));
    }

    @Says(in = "26", words = TOO_MANY)
    void promise26_13() {
        refused(STATE, () -> day("W22020" + "c00".repeat(7) + "c01".repeat(6)), y -> y.saved(0, 1));
        refused(STATE, () -> day("W22020" + "c00".repeat(12) + "c01"), y -> y.saved(1, 0));
    }
}
