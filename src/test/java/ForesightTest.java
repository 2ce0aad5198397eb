/** Promises 20 to 26: what would be, if only minutes went by. */
final class ForesightTest {
    private static final Due due = new Due();

    public static void main(String[] args) {
        promise20ServedIn();
        promise21WillPay();
        promise22Gain();
        promise22GainRefused();
        promise23Partner();
        promise23PartnerForAPrice();
        promise24BestLine();
        promise25Longest();
        promise26Saved();
        promise26SavedRefused();
        promises20To26ChangeNothing();
        due.end("ForesightTest");
    }

    private static void promise20ServedIn() {
        StoodMinutes x = Seen.withPeople(3);
        due.is("20: the first one", 3, () -> x.servedIn(0));
        due.is("20: the third one", 9, () -> x.servedIn(2));
        x.minutes(2);
        due.is("20: the first one, when the counter worked 2", 1, () -> x.servedIn(0));
        due.is("20: the third one then", 7, () -> x.servedIn(2));
        x.go(0);
        due.is("20: the counter's minutes are kept for the next one", 1, () -> x.servedIn(1));
        due.throwsState("20: of one who is gone", () -> x.servedIn(0));
        x.minutes(1);
        due.throwsState("20: of one who is served", () -> x.servedIn(1));
        due.throwsIndex("20: servedIn(-1)", () -> x.servedIn(-1));
        due.throwsIndex("20: servedIn(3)", () -> x.servedIn(3));
        x.open(20);
        for (int i = 0; i < 12; i++) {
            x.come(1, 0);
        }
        due.is("20: the last one of a full slow line", 240, () -> x.servedIn(14));
        x.minutes(60);
        x.minutes(60);
        x.minutes(60);
        x.minutes(59);
        due.is("20: it still stands 239 minutes later", 1, () -> x.servedIn(14));
        due.is("20: and is served then", 1, () -> x.minutes(1));
    }

    private static void promise21WillPay() {
        StoodMinutes x = new StoodMinutes();
        due.throwsArgument("21: willPay(0)", () -> x.willPay(0));
        due.throwsArgument("21: willPay(-1)", () -> x.willPay(-1));
        due.throwsArgument("21: willPay(1000)", () -> x.willPay(1000));
        due.is("21: without anyone", 0, () -> x.willPay(999));
        x.open(20);
        x.come(1, 0);
        x.come(1, 0);
        due.is("21: in one minute", 0, () -> x.willPay(1));
        due.is("21: below the limit", 0, () -> x.willPay(29));
        due.is("21: at the limit, the first one is served already", 5, () -> x.willPay(30));
        due.is("21: one fee until the second one is served", 5, () -> x.willPay(999));
        x.set(0, 10);
        due.is("21: two at the limit", 10, () -> x.willPay(10));
        due.is("21: none below it", 0, () -> x.willPay(9));
        due.is("21: at 20, the first one is served and is paid nothing", 15, () -> x.willPay(20));
        due.is("21: at 30", 20, () -> x.willPay(30));
        due.is("21: at 40, the second one is served", 20, () -> x.willPay(40));
        x.minutes(10);
        due.is("21: what is paid already does not count", 0, () -> x.willPay(9));
        due.is("21: what is paid next", 5, () -> x.willPay(10));
        x.set(1, 50);
        due.is("21: the fee as it is now", 100, () -> x.willPay(999));
        x.set(1, 0);
        due.is("21: no fee", 0, () -> x.willPay(999));
        x.set(1, 50);
        x.set(0, 99);
        due.is("21: a limit that nobody comes to", 0, () -> x.willPay(999));
        due.throwsArgument("21: willPay(the greatest int)", () -> x.willPay(Integer.MAX_VALUE));
        StoodMinutes edge = new StoodMinutes();
        edge.open(11);
        edge.come(1, 0);
        edge.set(0, 10);
        due.is("21: a fee in the minute before one is served", 5, () -> edge.willPay(999));
        edge.minutes(9);
        due.is("21: in the next minute alone", 5, () -> edge.willPay(1));
        edge.set(0, 11);
        edge.minutes(2);
        due.is("21: one who was served when a fee was due is not looked at", 0, () -> edge.willPay(999));
    }

    private static void promise22Gain() {
        StoodMinutes x = Seen.withPeople(4);
        x.minutes(2);
        due.is("22: a place of pace 3 and price 2", 1, () -> x.gain(1, 0));
        x.set(2, 1);
        due.is("22: two places of pace 3 and price 1", 4, () -> x.gain(3, 1));
        StoodMinutes y = new StoodMinutes();
        y.open(2);
        for (int i = 0; i < 4; i++) {
            y.come(1, 0);
        }
        y.minutes(3);
        y.set(2, 3);
        due.is("22: a loss, as the price is above the pace", -1, () -> y.gain(2, 1));
        due.is("22: gain does as exchange does", 3, () -> y.exchange(2, 1));
    }

    private static void promise22GainRefused() {
        StoodMinutes x = Seen.withPeople(4);
        x.open(3);
        x.come(1, 0);
        x.minutes(3);
        due.throwsIndex("22: gain(-1, 1)", () -> x.gain(-1, 1));
        due.throwsIndex("22: gain(5, 1)", () -> x.gain(5, 1));
        due.throwsIndex("22: gain(2, -1)", () -> x.gain(2, -1));
        due.throwsIndex("22: gain(2, 5)", () -> x.gain(2, 5));
        due.throwsIndex("22: one who is served, and one who is not there", () -> x.gain(0, 5));
        x.come(1, 0);
        due.throwsState("22: in two lines", () -> x.gain(2, 5));
        due.throwsState("22: with one who is served", () -> x.gain(1, 0));
        due.throwsState("22: of one who is served", () -> x.gain(0, 1));
        due.throwsState("22: with oneself", () -> x.gain(2, 2));
        due.throwsState("22: with one behind", () -> x.gain(1, 2));
        due.throwsState("22: that would cost too much", () -> x.gain(3, 1));
        due.is("22: that costs less", 1, () -> x.gain(3, 2));
    }

    private static void promise23Partner() {
        StoodMinutes x = Seen.withPeople(5);
        due.is("23: one who can pay nothing yet", -1, () -> x.partner(4));
        x.minutes(2);
        due.is("23: with 2 minutes, the next one ahead", 3, () -> x.partner(4));
        due.is("23: the first one has none", -1, () -> x.partner(0));
        x.set(2, 1);
        due.is("23: with 2 minutes, and half the price, the second one ahead", 2, () -> x.partner(4));
        x.minutes(9);
        due.is("23: one who is served has none", -1, () -> x.partner(0));
        due.throwsIndex("23: partner(-1)", () -> x.partner(-1));
        due.throwsIndex("23: partner(5)", () -> x.partner(5));
        StoodMinutes y = Seen.withPeople(5);
        y.open(6);
        y.merge(1, 0);
        y.minutes(5);
        y.jump(y.come(1, 1));
        // 0 1 2 5 3 4
        y.set(2, 1);
        due.is("23: the one furthest ahead, not the lowest", 0, () -> y.partner(4));
        y.exchange(1, 0);
        due.is("23: the one furthest ahead, though another one is lower", 1, () -> y.partner(2));
    }

    private static void promise23PartnerForAPrice() {
        StoodMinutes even = Seen.withPeople(5);
        even.set(2, 3);
        even.minutes(6);
        due.is("23: of equal gains of 0, the lowest person", 2, () -> even.partner(4));
        even.exchange(3, 2);
        due.is("23: also if it is not the one furthest ahead", 2, () -> even.partner(4));
        StoodMinutes dear = new StoodMinutes();
        dear.open(2);
        for (int i = 0; i < 7; i++) {
            dear.come(1, 0);
        }
        dear.set(2, 3);
        dear.minutes(6);
        due.is("23: if all gains are below 0, the greatest", 5, () -> dear.partner(6));
    }

    private static void promise24BestLine() {
        StoodMinutes x = new StoodMinutes();
        due.is("24: the one line", 0, x::bestLine);
        x.open(3);
        due.is("24: the lowest among several", 0, x::bestLine);
        x.open(2);
        due.is("24: the fastest line", 2, x::bestLine);
        x.come(2, 0);
        due.is("24: the empty line", 0, x::bestLine);
        x.come(0, 0);
        due.is("24: the other empty line", 1, x::bestLine);
        x.come(1, 0);
        due.is("24: a second place by the pace 2", 2, x::bestLine);
        x.minutes(1);
        x.go(1);
        due.is("24: the kept minutes of an empty line count", 0, x::bestLine);
        StoodMinutes full = Seen.withPeople(12);
        due.is("24: the only line is full", -1, full::bestLine);
        full.open(20);
        due.is("24: a slow line, when the other one is full", 1, full::bestLine);
        full.minutes(36);
        for (int p = 12; p < 24; p++) {
            full.come(0, 0);
        }
        for (int p = 24; p < 29; p++) {
            full.come(1, 0);
        }
        due.is("24: when 29 came", 1, full::bestLine);
        full.come(1, 0);
        due.is("24: when 30 came", -1, full::bestLine);
    }

    private static void promise25Longest() {
        StoodMinutes x = new StoodMinutes();
        due.is("25: without anyone", -1, x::longest);
        x.come(0, 0);
        x.come(0, 0);
        due.is("25: the last one of those who came together", 1, x::longest);
        StoodMinutes one = Seen.withPeople(1);
        due.is("25: the only one", 0, one::longest);
        x.open(6);
        x.come(1, 0);
        due.is("25: the lowest among several", 1, x::longest);
        x.minutes(1);
        x.come(1, 0);
        due.is("25: one who waits longer, though it came later", 3, x::longest);
        x.go(3);
        x.minutes(2);
        x.come(0, 0);
        due.is("25: one who has stood counts these minutes", 1, x::longest);
        x.minutes(60);
        due.is("25: when all are served", -1, x::longest);
    }

    private static void promise26Saved() {
        StoodMinutes x = Seen.withPeople(2);
        x.open(5);
        x.come(1, 0);
        x.come(1, 0);
        x.open(9);
        x.come(2, 0);
        // 3 6, 5 10: 24 in all; by one counter 3 6 9 12 or 5 10 15 20
        due.is("26: saved(0, 1)", -6, () -> x.saved(0, 1));
        due.is("26: saved(1, 0)", -26, () -> x.saved(1, 0));
        x.minutes(2);
        // 1 4, 3 8: 16 in all; 1 4 7 10 or 3 8 13 18
        due.is("26: saved(0, 1) with the minutes worked", -6, () -> x.saved(0, 1));
        due.is("26: saved(1, 0) with the minutes worked", -26, () -> x.saved(1, 0));
        // 1 4, 7: 12 in all; 1 4 7
        due.is("26: a merging that saves nothing", 0, () -> x.saved(0, 2));
        x.go(0);
        x.go(1);
        // 3 8; 1 4
        due.is("26: a merging into an empty, faster line", 6, () -> x.saved(0, 1));
        due.is("26: a merging of an empty line", 0, () -> x.saved(1, 0));
        x.come(0, 0);
        // 1; 3 8; 1 4 7, or 3 8 13, by the minutes that each counter has worked
        due.is("26: what the one counter has worked", 0, () -> x.saved(0, 1));
        due.is("26: what the other one has worked", -12, () -> x.saved(1, 0));
        x.minutes(1);
        // 2 7; 2 5; all four by the pace 3 with 1 minute worked or by 5 with 3 minutes worked
        x.come(0, 0);
        x.come(0, 0);
        x.minutes(1);
        due.is("26: counters that worked differently", (2 + 5) + (1 + 6) - (2 + 5 + 8 + 11), () -> x.saved(0, 1));
        due.is("26: counters that worked differently", (2 + 5) + (1 + 6) - (1 + 6 + 11 + 16), () -> x.saved(1, 0));
    }

    private static void promise26SavedRefused() {
        StoodMinutes x = Seen.withPeople(7);
        x.open(2);
        for (int i = 0; i < 5; i++) {
            x.come(1, 0);
        }
        due.throwsIndex("26: saved(-1, 0)", () -> x.saved(-1, 0));
        due.throwsIndex("26: saved(2, 0)", () -> x.saved(2, 0));
        due.throwsIndex("26: saved(0, -1)", () -> x.saved(0, -1));
        due.throwsIndex("26: saved(0, 2)", () -> x.saved(0, 2));
        due.throwsIndex("26: two alike that are not there", () -> x.saved(2, 2));
        due.throwsArgument("26: saved(1, 1)", () -> x.saved(1, 1));
        due.is("26: 12 would stand in it", 3 * 28 + 2 * 15 - 2 * 78, () -> x.saved(1, 0));
        x.come(1, 0);
        due.throwsState("26: 13 would stand in it", () -> x.saved(0, 1));
        due.throwsArgument("26: both alike is told before too many", () -> x.saved(0, 0));
    }

    private static void promises20To26ChangeNothing() {
        StoodMinutes x = new StoodMinutes();
        x.open(4);
        for (int i = 0; i < 8; i++) {
            x.come(i % 2, i % 3);
        }
        x.minutes(2);
        String before = Seen.of(x);
        x.servedIn(5);
        x.willPay(200);
        x.gain(2, 0);
        x.partner(6);
        x.bestLine();
        x.longest();
        x.saved(0, 1);
        due.compare("20 to 26 change nothing", before, Seen.of(x));
        due.is("20 to 26 are no actions", 9, x::undo);
    }
}
