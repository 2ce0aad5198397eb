/** The document's terms: time, the settings, and when a counter keeps its minutes. */
final class TimeEdgesTest extends Edges {
    private static final String ORDER = "In a minute these things happen, one after the other:";
    private static final String STANDING =
            "1. Everyone who stands in some line gets one minute more of standing (a certificate tells it).";
    private static final String WORK = "2. Each counter, ascending, of a line that is not empty works one minute "
            + "on its first one; if it has worked as many as the pace, or more, this one is served, "
            + "and it begins anew (with 0 minutes worked) with the next one.";
    private static final String FEE = "3. Everyone, ascending, who still stands, and has now stood exactly the "
            + "limit, as it is now, or the limit and a multiple of 10 minutes, is paid the fee by the house.";
    private static final String LIMIT = "There are settings: 0: the limit, 10 to 99 minutes, at first 30;";
    private static final String FEES = "1: the fee, 0 to 50, at first 5;";
    private static final String PRICE = "2: the price of a place, 1 to 9 minutes, at first 2;";
    private static final String JUMP = "3: the jump, 1 to 5 places, at first 2.";
    private static final String KEEPS = "When someone else becomes the first one of a line, other than by "
            + "serving, its counter keeps the minutes that it has worked (also while the line is empty).";

    public static void main(String[] args) {
        run(TimeEdgesTest.class);
    }

    /** Many who stand long: 0 to 5 by the pace 20; 5 is served after 120 minutes. */
    private static StoodMinutes slow() {
        return day("W120" + "c00".repeat(6));
    }

    // ---- a minute

    @Says(in = "Terms", words = ORDER)
    void order_oneWhoIsServedHasStoodThatMinuteToo() {
        x = day("W101c00");
        x.minutes(1);
        is(1, () -> x.person(0, 3));
    }

    @Says(in = "Terms", words = ORDER)
    void order_oneWhoIsServedIsPaidNoFeeInThatMinute() {
        x = day("W110c00");
        x.set(0, 10);
        is(1, () -> x.minutes(10));
        is(0, () -> x.about(8));
    }

    @Says(in = "Terms", words = ORDER)
    void order_theFeeIsPaidForTheMinuteThatIsJustStood() {
        x = day("W111c00");
        x.set(0, 10);
        x.minutes(10);
        is(5, () -> x.person(0, 5));
    }

    @Says(in = "Terms", words = STANDING)
    void standing_inEveryLine() {
        x = day("W3030405c00c01c02c02");
        x.minutes(1);
        for (int p = 0; p < 4; p++) {
            int one = p;
            is(1, () -> x.person(one, 3));
        }
    }

    @Says(in = "Terms", words = STANDING)
    void standing_ofOneWhoJustCameIs0() {
        x.minutes(7);
        x.come(0, 0);
        is(0, () -> x.person(0, 3));
    }

    @Says(in = "Terms", words = STANDING)
    void standing_ofOneWhoIsServedGrowsNoMore() {
        x = day("W101c00");
        x.minutes(2);
        is(1, () -> x.person(0, 3));
    }

    @Says(in = "Terms", words = STANDING)
    void standing_ofOneWhoWentAwayGrowsNoMore() {
        x = Seen.withPeople(2);
        x.minutes(1);
        x.go(1);
        x.minutes(1);
        is(1, () -> x.person(1, 3));
        is(2, () -> x.person(0, 3));
    }

    @Says(in = "Terms", words = WORK)
    void work_allCountersInTheSameMinute() {
        x = day("W3010101c00c01c02");
        is(3, () -> x.minutes(1));
    }

    @Says(in = "Terms", words = WORK)
    void work_ofAnEmptyLineIsNone() {
        x = day("W20303c01");
        x.minutes(2);
        is(0, () -> x.line(0, 2));
        is(2, () -> x.line(1, 2));
    }

    @Says(in = "Terms", words = WORK)
    void work_oneMinuteBelowThePace() {
        x = day("W120c00");
        is(0, () -> x.minutes(19));
        is(19, () -> x.line(0, 2));
    }

    @Says(in = "Terms", words = WORK)
    void work_atThePace_beginsAnewWithTheNextOne() {
        x = day("W120c00c00");
        is(1, () -> x.minutes(20));
        is(0, () -> x.line(0, 2));
        is(0, () -> x.minutes(19));
        is(1, () -> x.minutes(1));
    }

    @Says(in = "Terms", words = WORK)
    void work_atThePace_beginsAnewThoughNobodyIsNext() {
        x = day("W120c00");
        x.minutes(20);
        is(0, () -> x.line(0, 2));
        x.come(0, 0);
        is(0, () -> x.minutes(19));
        is(1, () -> x.minutes(1));
    }

    // ---- fees

    @Says(in = "Terms", words = FEE)
    void fee_oneMinuteBelowTheLimit_isNone() {
        x = slow();
        x.minutes(29);
        is(0, () -> x.about(8));
    }

    @Says(in = "Terms", words = FEE)
    void fee_atTheLimit_isPaidToEachWhoStillStands() {
        x = slow();
        x.minutes(30);
        is(0, () -> x.person(0, 5));
        for (int p = 1; p < 6; p++) {
            int one = p;
            is(5, () -> x.person(one, 5));
        }
    }

    @Says(in = "Terms", words = FEE)
    void fee_to9MinutesAboveTheLimit_isNoneAgain() {
        x = slow();
        x.minutes(31);
        is(5, () -> x.person(5, 5));
        x.minutes(8);
        is(5, () -> x.person(5, 5));
    }

    @Says(in = "Terms", words = FEE)
    void fee_10MinutesAboveTheLimit_isPaidAgain() {
        x = slow();
        x.minutes(40);
        is(10, () -> x.person(5, 5));
        x.minutes(1);
        is(10, () -> x.person(5, 5));
    }

    @Says(in = "Terms", words = FEE)
    void fee_atEachMultipleOf10AboveTheLimit() {
        x = slow();
        x.minutes(60);
        is(20, () -> x.person(5, 5));
        x.minutes(59);
        is(45, () -> x.person(5, 5));
        x.minutes(1);
        is(45, () -> x.person(5, 5));
    }

    @Says(in = "Terms", words = FEE)
    void fee_atAMultipleOf10BelowTheLimit_isNone() {
        x = slow();
        x.minutes(20);
        is(0, () -> x.about(8));
    }

    @Says(in = "Terms", words = FEE)
    void fee_theLimitAsItIsNow_raisedByOne() {
        x = slow();
        x.minutes(29);
        x.set(0, 31);
        x.minutes(1);
        is(0, () -> x.about(8));
        x.minutes(1);
        is(5, () -> x.person(5, 5));
    }

    @Says(in = "Terms", words = FEE)
    void fee_theLimitAsItIsNow_loweredToWhatIsStoodNext() {
        x = slow();
        x.minutes(14);
        x.set(0, 15);
        x.minutes(1);
        is(30, () -> x.about(8));
    }

    @Says(in = "Terms", words = FEE)
    void fee_theLimitAsItIsNow_loweredToWhatIsStoodAlready() {
        x = slow();
        x.minutes(15);
        x.set(0, 15);
        x.minutes(9);
        is(0, () -> x.about(8));
        x.minutes(1);
        is(5, () -> x.person(5, 5));
    }

    @Says(in = "Terms", words = FEE)
    void fee_ofOneWhoIsServedAMinuteLater_isPaid() {
        x = day("W111c00");
        x.set(0, 10);
        x.minutes(11);
        is(1, () -> x.person(0, 6));
        is(5, () -> x.person(0, 5));
    }

    @Says(in = "Terms", words = FEE)
    void fee_ofOneWhoWentAway_isNone() {
        x = slow();
        x.minutes(29);
        x.go(5);
        x.minutes(1);
        is(0, () -> x.person(5, 5));
        is(5, () -> x.person(4, 5));
    }

    @Says(in = "Terms", words = FEE)
    void fee_countsWhatEachHasStood_notTheMinutesThatWentBy() {
        x = slow();
        x.minutes(1);
        x.come(0, 0);
        x.minutes(29);
        is(5, () -> x.person(5, 5));
        is(0, () -> x.person(6, 5));
        x.minutes(1);
        is(5, () -> x.person(6, 5));
    }

    // ---- settings

    @Says(in = "Terms", words = {LIMIT, FEES, PRICE, JUMP})
    void settings_atFirst() {
        is(30, () -> x.setting(0));
        is(5, () -> x.setting(1));
        is(2, () -> x.setting(2));
        is(2, () -> x.setting(3));
    }

    @Says(in = "Terms", words = LIMIT)
    void limit_least10() {
        x = slow();
        is(30, () -> x.set(0, 10));
        x.minutes(9);
        is(0, () -> x.about(8));
        x.minutes(1);
        is(30, () -> x.about(8));
    }

    @Says(in = "Terms", words = LIMIT)
    void limit_most99() {
        x = slow();
        is(30, () -> x.set(0, 99));
        x.minutes(60);
        x.minutes(38);
        is(0, () -> x.about(8));
        x.minutes(1);
        is(10, () -> x.about(8));
    }

    @Says(in = "Terms", words = LIMIT)
    void limit_9and100areNone() {
        refused(ARGUMENT, Edges::lived, y -> y.set(0, 9));
        refused(ARGUMENT, Edges::lived, y -> y.set(0, 100));
    }

    @Says(in = "Terms", words = FEES)
    void fees_least0() {
        x = slow();
        is(5, () -> x.set(1, 0));
        x.minutes(30);
        is(0, () -> x.about(8));
    }

    @Says(in = "Terms", words = FEES)
    void fees_most50() {
        x = slow();
        is(5, () -> x.set(1, 50));
        x.minutes(30);
        is(50, () -> x.person(5, 5));
    }

    @Says(in = "Terms", words = FEES)
    void fees_minus1and51areNone() {
        refused(ARGUMENT, Edges::lived, y -> y.set(1, -1));
        refused(ARGUMENT, Edges::lived, y -> y.set(1, 51));
    }

    @Says(in = "Terms", words = PRICE)
    void price_least1() {
        x = slow();
        is(2, () -> x.set(2, 1));
        x.minutes(1);
        is(1, () -> x.exchange(5, 4));
    }

    @Says(in = "Terms", words = PRICE)
    void price_most9() {
        x = slow();
        is(2, () -> x.set(2, 9));
        x.minutes(9);
        is(9, () -> x.exchange(5, 4));
    }

    @Says(in = "Terms", words = PRICE)
    void price_0and10areNone() {
        refused(ARGUMENT, Edges::lived, y -> y.set(2, 0));
        refused(ARGUMENT, Edges::lived, y -> y.set(2, 10));
    }

    @Says(in = "Terms", words = JUMP)
    void jump_least1() {
        x = slow();
        x.come(0, 1);
        is(2, () -> x.set(3, 1));
        is(1, () -> x.jump(6));
        row(0, 0, 1, 2, 3, 4, 6, 5);
    }

    @Says(in = "Terms", words = JUMP)
    void jump_most5() {
        x = slow();
        x.come(0, 1);
        is(2, () -> x.set(3, 5));
        is(5, () -> x.jump(6));
        row(0, 0, 6, 1, 2, 3, 4, 5);
    }

    @Says(in = "Terms", words = JUMP)
    void jump_0and6areNone() {
        refused(ARGUMENT, Edges::lived, y -> y.set(3, 0));
        refused(ARGUMENT, Edges::lived, y -> y.set(3, 6));
    }

    // ---- a counter's minutes

    @Says(in = "Terms", words = KEEPS)
    void keeps_whenTheFirstOneGoesAway() {
        x = Seen.withPeople(2);
        x.minutes(2);
        x.go(0);
        is(2, () -> x.line(0, 2));
        is(1, () -> x.minutes(1));
        is(1, () -> x.person(1, 6));
    }

    @Says(in = "Terms", words = KEEPS)
    void keeps_whenTheFirstOneIsExchanged() {
        x = Seen.withPeople(2);
        x.minutes(2);
        x.exchange(1, 0);
        is(2, () -> x.line(0, 2));
        is(1, () -> x.minutes(1));
        is(1, () -> x.person(1, 6));
    }

    @Says(in = "Terms", words = KEEPS)
    void keeps_whenSomeoneJumpsToTheFirstPlace() {
        x.come(0, 0);
        x.come(0, 1);
        x.minutes(2);
        x.jump(1);
        is(2, () -> x.line(0, 2));
        is(1, () -> x.minutes(1));
        is(1, () -> x.person(1, 6));
    }

    @Says(in = "Terms", words = KEEPS)
    void keeps_whenOneWhoHasStoodLongerIsMergedIn() {
        x = day("W20320c01");
        x.minutes(1);
        x.come(0, 0);
        x.minutes(2);
        x.merge(0, 1);
        row(0, 0, 1);
        is(2, () -> x.line(0, 2));
        is(1, () -> x.minutes(1));
        is(1, () -> x.person(0, 6));
    }

    @Says(in = "Terms", words = KEEPS)
    void keeps_whileTheLineIsEmpty() {
        x = Seen.withPeople(1);
        x.minutes(2);
        x.go(0);
        is(2, () -> x.line(0, 2));
        is(0, () -> x.minutes(60));
        is(2, () -> x.line(0, 2));
        x.come(0, 0);
        is(1, () -> x.servedIn(1));
        is(1, () -> x.minutes(1));
        is(0, () -> x.line(0, 2));
    }

    @Says(in = "Terms", words = KEEPS)
    void keeps_notWhenTheFirstOneIsServed() {
        x = Seen.withPeople(2);
        x.minutes(3);
        is(0, () -> x.line(0, 2));
        is(0, () -> x.minutes(2));
    }
}
