/** The document's terms: exchanges, jumps, and merging. */
final class TradeEdgesTest extends Edges {
    private static final String ACCOUNT =
            "Everyone has an account of minutes, which begins with 0, and can be below 0.";
    private static final String PAID = "What someone is paid, by the house too, is added to the account.";
    private static final String EXCHANGE =
            "An exchange of two who stand in the same line: they change places.";
    private static final String PAYS = "The one who goes forward pays the other one the price for each place "
            + "between their places (the difference of the places): the account of the one becomes less, "
            + "that of the other one greater by that.";
    private static final String TOGETHER = "The account of the one who pays and the minutes that this one has "
            + "stood, together, may not be below 0 then.";
    private static final String JUMP = "A jump of one who stands in a line and is not plain: the one goes forward "
            + "by as many places as the jump tells, or to the first place, if these are fewer; "
            + "those who are passed stand one place further back.";
    private static final String JUMP_PAID = "One by right pays nothing, and the house pays each who is passed the "
            + "price; a hasty one pays each of them the price, whether the account falls below 0 or not.";
    private static final String NOBODY = "Nobody can jump who is first, and nobody twice within 5 minutes "
            + "(of the minutes that went by).";
    private static final String MERGED = "Two lines are merged into the one by what has been stood: all who stand "
            + "in both stand in it then, those who have stood longer first, of those alike the lower person "
            + "(also if one of both was empty); the other one is empty then.";
    private static final String ANEW =
            "Its counter begins anew (with 0 minutes worked); that of the one keeps its minutes.";

    public static void main(String[] args) {
        run(TradeEdgesTest.class);
    }

    /** People of the pace 20 who have stood so many minutes, of whom the last one is of a kind of its own. */
    private static StoodMinutes stood(int people, int kindOfTheLast, int minutes) {
        StoodMinutes y = day("W120" + "c00".repeat(people - 1) + "c" + kindOfTheLast + "0");
        if (minutes > 0) {
            y.minutes(minutes);
        }
        return y;
    }

    /** One by right, the last one of so many, who may jump by so many places. */
    private static StoodMinutes jumper(int people, int jump) {
        StoodMinutes y = stood(people, 1, 0);
        y.set(3, jump);
        return y;
    }

    // ---- accounts

    @Says(in = "Terms", words = ACCOUNT)
    void account_beginsWith0() {
        x.minutes(9);
        x.come(0, 2);
        is(0, () -> x.person(0, 4));
    }

    @Says(in = "Terms", words = ACCOUNT)
    void account_canBeBelow0ByAnExchange() {
        x = stood(2, 0, 2);
        x.exchange(1, 0);
        is(-2, () -> x.person(1, 4));
    }

    @Says(in = "Terms", words = ACCOUNT)
    void account_canBeBelow0ByAJump() {
        x = stood(2, 2, 0);
        x.jump(1);
        is(-2, () -> x.person(1, 4));
    }

    @Says(in = "Terms", words = PAID)
    void paid_byAnotherOne() {
        x = stood(2, 0, 2);
        x.exchange(1, 0);
        is(2, () -> x.person(0, 4));
        is(0, () -> x.person(0, 5));
    }

    @Says(in = "Terms", words = PAID)
    void paid_aFeeByTheHouse() {
        x = stood(2, 0, 30);
        is(5, () -> x.person(1, 4));
        is(5, () -> x.person(1, 5));
    }

    @Says(in = "Terms", words = PAID)
    void paid_forAJumpByTheHouse() {
        x = stood(2, 1, 0);
        x.jump(1);
        is(2, () -> x.person(0, 4));
        is(2, () -> x.person(0, 5));
    }

    // ---- exchanges

    @Says(in = "Terms", words = EXCHANGE)
    void exchange_ofNeighbours() {
        x = stood(4, 0, 9);
        x.exchange(2, 1);
        row(0, 0, 2, 1, 3);
    }

    @Says(in = "Terms", words = EXCHANGE)
    void exchange_ofTheFirstAndTheLastOfAFullLine() {
        x = stood(12, 0, 11);
        x.set(2, 1);
        x.exchange(11, 0);
        row(0, 11, 1, 2, 3, 4, 5, 6, 7, 8, 9, 10, 0);
    }

    @Says(in = "Terms", words = EXCHANGE)
    void exchange_inTwoLinesIsRefused() {
        refused(STATE, () -> {
            StoodMinutes y = day("W22020c00c00c01c01");
            y.minutes(9);
            return y;
        }, y -> y.exchange(3, 0));
    }

    @Says(in = "Terms", words = PAYS)
    void pays_forOnePlace() {
        x = stood(4, 0, 9);
        is(2, () -> x.exchange(3, 2));
        is(-2, () -> x.person(3, 4));
        is(2, () -> x.person(2, 4));
        is(0, () -> x.person(0, 4) + x.person(1, 4));
    }

    @Says(in = "Terms", words = PAYS)
    void pays_forElevenPlaces_andNothingToThoseBetween() {
        x = stood(12, 0, 11);
        x.set(2, 1);
        is(11, () -> x.exchange(11, 0));
        is(-11, () -> x.person(11, 4));
        is(11, () -> x.person(0, 4));
        for (int p = 1; p < 11; p++) {
            int one = p;
            is(0, () -> x.person(one, 4));
        }
    }

    @Says(in = "Terms", words = TOGETHER)
    void together_just0() {
        x = stood(3, 0, 4);
        is(4, () -> x.exchange(2, 0));
        is(0, () -> x.person(2, 4) + x.person(2, 3));
    }

    @Says(in = "Terms", words = TOGETHER)
    void together_1above0() {
        x = stood(3, 0, 5);
        is(4, () -> x.exchange(2, 0));
    }

    @Says(in = "Terms", words = TOGETHER)
    void together_1below0isRefused() {
        refused(STATE, () -> stood(3, 0, 3), y -> y.exchange(2, 0));
    }

    @Says(in = "Terms", words = TOGETHER)
    void together_ofOneWhoHasStoodNothing() {
        refused(STATE, () -> {
            StoodMinutes y = stood(2, 0, 0);
            y.set(2, 1);
            return y;
        }, y -> y.exchange(1, 0));
    }

    private static StoodMinutes paidBefore(int minutes) {
        StoodMinutes y = stood(3, 0, minutes);
        y.exchange(2, 1);
        return y;
    }

    @Says(in = "Terms", words = TOGETHER)
    void together_withAnAccountBelow0() {
        x = paidBefore(4);
        is(2, () -> x.exchange(2, 0));
        refused(STATE, () -> paidBefore(3), y -> y.exchange(2, 0));
    }

    /** 3 has stood so many minutes, and was paid 2 when 4 jumped: 0 1 4 2 3. */
    private static StoodMinutes wasPaid(int minutes) {
        StoodMinutes y = stood(4, 0, minutes);
        y.come(0, 1);
        y.jump(4);
        return y;
    }

    @Says(in = "Terms", words = TOGETHER)
    void together_withAnAccountAbove0() {
        x = wasPaid(2);
        is(4, () -> x.exchange(3, 4));
        refused(STATE, () -> wasPaid(1), y -> y.exchange(3, 4));
    }

    // ---- jumps

    @Says(in = "Terms", words = JUMP)
    void jump_ofAsManyPlacesAsThereAre() {
        x = jumper(3, 2);
        is(2, () -> x.jump(2));
        row(0, 2, 0, 1);
    }

    @Says(in = "Terms", words = JUMP)
    void jump_ofOnePlaceLessThanThereAre() {
        x = jumper(4, 2);
        is(2, () -> x.jump(3));
        row(0, 0, 3, 1, 2);
    }

    @Says(in = "Terms", words = JUMP)
    void jump_toTheFirstPlaceIfThereIsOnePlaceLess() {
        x = jumper(2, 2);
        is(1, () -> x.jump(1));
        row(0, 1, 0);
    }

    @Says(in = "Terms", words = JUMP)
    void jump_of5AtPlace4isTo0() {
        x = jumper(5, 5);
        is(4, () -> x.jump(4));
        row(0, 4, 0, 1, 2, 3);
    }

    @Says(in = "Terms", words = JUMP)
    void jump_of5AtPlace5isTo0() {
        x = jumper(6, 5);
        is(5, () -> x.jump(5));
        row(0, 5, 0, 1, 2, 3, 4);
    }

    @Says(in = "Terms", words = JUMP)
    void jump_of5AtPlace6isTo1() {
        x = jumper(7, 5);
        is(5, () -> x.jump(6));
        row(0, 0, 6, 1, 2, 3, 4, 5);
    }

    @Says(in = "Terms", words = JUMP)
    void jump_ofTheLastOfAFullLine() {
        x = jumper(12, 1);
        is(1, () -> x.jump(11));
        row(0, 0, 1, 2, 3, 4, 5, 6, 7, 8, 9, 11, 10);
    }

    @Says(in = "Terms", words = JUMP)
    void jump_thoseBehindStay() {
        x = day("W120c00c00c00c10c00c00");
        x.jump(3);
        row(0, 0, 3, 1, 2, 4, 5);
    }

    @Says(in = "Terms", words = JUMP)
    void jump_ofAPlainOneIsRefused() {
        refused(STATE, () -> stood(3, 0, 9), y -> y.jump(2));
    }

    @Says(in = "Terms", words = JUMP)
    void jump_ofOneWhoStandsNoLongerIsRefused() {
        refused(STATE, () -> {
            StoodMinutes y = stood(3, 1, 0);
            y.go(2);
            return y;
        }, y -> y.jump(2));
    }

    @Says(in = "Terms", words = JUMP_PAID)
    void jump_byRight_theHousePaysThoseWhoArePassed() {
        x = stood(4, 1, 0);
        x.jump(3);
        is(0, () -> x.person(3, 4));
        is(0, () -> x.person(0, 4));
        is(2, () -> x.person(1, 5));
        is(2, () -> x.person(2, 5));
        is(4, () -> x.about(8));
    }

    @Says(in = "Terms", words = JUMP_PAID)
    void jump_ofAHastyOne_theHousePaysNothing() {
        x = stood(4, 2, 0);
        x.jump(3);
        is(-4, () -> x.person(3, 4));
        is(0, () -> x.person(0, 4));
        is(2, () -> x.person(1, 4));
        is(2, () -> x.person(2, 4));
        is(0, () -> x.person(1, 5) + x.person(2, 5) + x.about(8));
    }

    @Says(in = "Terms", words = JUMP_PAID)
    void jump_byRight_theLeastAndTheGreatestPrice() {
        x = stood(3, 1, 0);
        x.set(2, 9);
        x.jump(2);
        is(9, () -> x.person(0, 5));
        is(9, () -> x.person(1, 4));
        is(18, () -> x.about(8));
        x = stood(3, 1, 0);
        x.set(2, 1);
        x.jump(2);
        is(1, () -> x.person(0, 5));
        is(2, () -> x.about(8));
    }

    @Says(in = "Terms", words = JUMP_PAID)
    void jump_ofAHastyOne_theLeastAndTheGreatestPrice() {
        x = stood(3, 2, 0);
        x.set(2, 9);
        x.jump(2);
        is(9, () -> x.person(0, 4));
        is(9, () -> x.person(1, 4));
        is(-18, () -> x.person(2, 4));
        x = stood(3, 2, 0);
        x.set(2, 1);
        x.jump(2);
        is(1, () -> x.person(0, 4));
        is(-2, () -> x.person(2, 4));
    }

    @Says(in = "Terms", words = JUMP_PAID)
    void jump_ofAHastyOne_theAccountFallsBelowWhatIsStood() {
        x = stood(6, 2, 0);
        x.set(2, 9);
        x.set(3, 5);
        is(5, () -> x.jump(5));
        is(-45, () -> x.person(5, 4));
    }

    @Says(in = "Terms", words = JUMP_PAID)
    void jump_ofAHastyOne_whoseAccountIsBelow0Already() {
        x = stood(6, 2, 0);
        x.jump(5);
        x.minutes(5);
        is(2, () -> x.jump(5));
        is(-8, () -> x.person(5, 4));
    }

    @Says(in = "Terms", words = NOBODY)
    void jump_ofTheFirstOneIsRefused() {
        refused(STATE, () -> stood(1, 1, 0), y -> y.jump(0));
        refused(STATE, () -> day("W120c20c00"), y -> y.jump(0));
    }

    @Says(in = "Terms", words = NOBODY)
    void jump_ofTheSecondOneIsNot() {
        x = day("W120c00c20");
        is(1, () -> x.jump(1));
    }

    /** The last one jumped so many minutes ago. */
    private static StoodMinutes jumpedAgo(int minutes) {
        StoodMinutes y = jumper(12, 1);
        y.minutes(3);
        y.jump(11);
        if (minutes > 0) {
            y.minutes(minutes);
        }
        return y;
    }

    @Says(in = "Terms", words = NOBODY)
    void jump_twiceInTheSameMinuteIsRefused() {
        refused(STATE, () -> jumpedAgo(0), y -> y.jump(11));
    }

    @Says(in = "Terms", words = NOBODY)
    void jump_twiceWithin4MinutesIsRefused() {
        refused(STATE, () -> jumpedAgo(4), y -> y.jump(11));
    }

    @Says(in = "Terms", words = NOBODY)
    void jump_5MinutesLater() {
        x = jumpedAgo(5);
        is(1, () -> x.jump(11));
    }

    @Says(in = "Terms", words = NOBODY)
    void jump_6MinutesLater() {
        x = jumpedAgo(6);
        is(1, () -> x.jump(11));
    }

    @Says(in = "Terms", words = NOBODY)
    void jump_theSecondOneBeginsThe5MinutesAnew() {
        refused(STATE, () -> {
            StoodMinutes y = jumpedAgo(5);
            y.jump(11);
            y.minutes(4);
            return y;
        }, y -> y.jump(11));
    }

    @Says(in = "Terms", words = NOBODY)
    void jump_inTheMinuteInWhichOneCame() {
        x = day("W120c00c10");
        is(1, () -> x.jump(1));
    }

    @Says(in = "Terms", words = NOBODY)
    void jump_oneWhoIsPassedMayJumpAtOnce() {
        x = day("W120c00c00c10c20");
        x.set(3, 1);
        is(1, () -> x.jump(3));
        is(1, () -> x.jump(2));
        row(0, 0, 1, 2, 3);
    }

    @Says(in = "Terms", words = NOBODY)
    void jump_thatIsTakenBackBeginsNo5Minutes() {
        x = jumpedAgo(0);
        x.undo();
        is(1, () -> x.jump(11));
    }

    @Says(in = "Terms", words = NOBODY)
    void jump_thatIsRefusedBeginsNo5Minutes() {
        x = jumpedAgo(4);
        try {
            x.jump(11);
        } catch (IllegalStateException e) {
            // due
        }
        x.minutes(1);
        is(1, () -> x.jump(11));
    }

    // ---- merging

    @Says(in = "Terms", words = MERGED)
    void merged_thoseWhoHaveStoodLongerFirst() {
        x = day("W22020c00t1c01t1c00t1c01t1");
        x.merge(0, 1);
        row(0, 0, 1, 2, 3);
        row(1);
    }

    @Says(in = "Terms", words = MERGED)
    void merged_thoseWhoHaveStoodLongerFirst_thoughTheyStoodBehind() {
        x = day("W22020c00t1c10c01t3x0100");
        row(0, 1, 0);
        x.merge(1, 0);
        row(1, 0, 1, 2);
        row(0);
    }

    @Says(in = "Terms", words = MERGED)
    void merged_ofThoseAlikeTheLowerFirst() {
        x = day("W22020c01c00c01c00t3x0200");
        row(1, 2, 0);
        x.merge(0, 1);
        row(0, 0, 1, 2, 3);
        row(1);
    }

    @Says(in = "Terms", words = MERGED)
    void merged_ofThoseAlikeTheLowerFirst_thoughTheyStoodBehind() {
        x = day("W22020c00c00c01c00c01t2x0301x0402");
        row(0, 0, 3, 1);
        row(1, 4, 2);
        x.merge(1, 0);
        row(1, 0, 1, 2, 3, 4);
    }

    @Says(in = "Terms", words = MERGED)
    void merged_whenTheOtherOneWasEmpty() {
        x = day("W22020c00c00c00t4x0200");
        row(0, 2, 1, 0);
        x.merge(0, 1);
        row(0, 0, 1, 2);
        row(1);
    }

    @Says(in = "Terms", words = MERGED)
    void merged_whenTheOneWasEmpty() {
        x = day("W22020c00c00c00t4x0200");
        x.merge(1, 0);
        row(1, 0, 1, 2);
        row(0);
    }

    @Says(in = "Terms", words = MERGED)
    void merged_whenBothWereEmpty() {
        x = day("W22020");
        x.merge(1, 0);
        row(0);
        row(1);
    }

    @Says(in = "Terms", words = MERGED)
    void merged_intoAFullLine() {
        x = day("W22020" + "c01c00".repeat(6));
        x.merge(0, 1);
        row(0, 0, 1, 2, 3, 4, 5, 6, 7, 8, 9, 10, 11);
        row(1);
    }

    @Says(in = "Terms", words = MERGED)
    void merged_theThirdLineStaysAsItIs() {
        x = day("W3202020c00c01c02c02t2x0302");
        x.merge(0, 1);
        row(0, 0, 1);
        row(2, 3, 2);
        is(2, () -> x.line(2, 2));
    }

    @Says(in = "Terms", words = ANEW)
    void anew_thatOfTheOtherOne() {
        x = day("W22020c00c01t7");
        x.merge(0, 1);
        is(0, () -> x.line(1, 2));
        is(7, () -> x.line(0, 2));
        x.come(1, 0);
        is(20, () -> x.servedIn(2));
    }

    @Says(in = "Terms", words = ANEW)
    void anew_thatOfAnOtherOneThatWasEmpty() {
        x = day("W22020c00c01t7g01");
        is(7, () -> x.line(1, 2));
        x.merge(0, 1);
        is(0, () -> x.line(1, 2));
        is(7, () -> x.line(0, 2));
    }

    @Says(in = "Terms", words = ANEW)
    void anew_thatOfAnEmptyOneIsKept() {
        x = day("W22020c00c01t7g00t2");
        x.merge(0, 1);
        is(7, () -> x.line(0, 2));
        is(0, () -> x.line(1, 2));
        is(13, () -> x.servedIn(1));
    }

    @Says(in = "Terms", words = ANEW)
    void anew_oneMinuteBelowThePaceIsKept() {
        x = day("W20310c00c01t2");
        x.merge(0, 1);
        is(2, () -> x.line(0, 2));
        is(1, () -> x.minutes(1));
    }
}
