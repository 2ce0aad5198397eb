import java.util.List;
import java.util.function.Consumer;

/** Promises 11 to 19: the actions, and undo. */
final class ActionsTest {
    private static final Due due = new Due();

    public static void main(String[] args) {
        promise11Open();
        promise12Come();
        promise13Go();
        promise14Exchange();
        promise14ExchangeRefused();
        promise15Jump();
        promise15JumpRefused();
        promise15JumpPause();
        promise16Merge();
        promise16MergeRefused();
        promise17Minutes();
        promise17Fees();
        promise18Set();
        promise19Undo();
        promise19UndoOfEachAction();
        due.end("ActionsTest");
    }

    /** Those who stand in a line, as a text. */
    private static String row(StoodMinutes x, int l) {
        StringBuilder row = new StringBuilder();
        for (int k = 0; k < x.line(l, 1); k++) {
            row.append(' ').append(x.at(l, k));
        }
        return row.toString();
    }

    /** The numbers of about: few calls, as an object has but 512. */
    private static String numbers(StoodMinutes x) {
        StringBuilder numbers = new StringBuilder();
        for (int what = 0; what <= 9; what++) {
            numbers.append(' ').append(x.about(what));
        }
        return numbers.toString();
    }

    /** The call throws, and changes none of the numbers; that it changes nothing at all, the edges' tests ask. */
    private static void refused(StoodMinutes x, Class<?> kind, String told, Due.Call call) {
        String before = numbers(x);
        if (kind == IndexOutOfBoundsException.class) {
            due.throwsIndex(told, call);
        } else if (kind == IllegalArgumentException.class) {
            due.throwsArgument(told, call);
        } else {
            due.throwsState(told, call);
        }
        due.compare(told + " changes nothing", before, numbers(x));
    }

    private static void promise11Open() {
        StoodMinutes x = new StoodMinutes();
        refused(x, IllegalArgumentException.class, "11: open(0)", () -> x.open(0));
        refused(x, IllegalArgumentException.class, "11: open(21)", () -> x.open(21));
        due.throwsState("11: a refused open is no action", x::undo);
        due.is("11: open(1)", 1, () -> x.open(1));
        due.is("11: open(20)", 2, () -> x.open(20));
        due.is("11: the pace", 1, () -> x.line(1, 0));
        due.is("11: the pace", 20, () -> x.line(2, 0));
        due.is("11: the lines", 3, () -> x.about(1));
        refused(x, IllegalStateException.class, "11: a fourth line", () -> x.open(5));
        refused(x, IllegalArgumentException.class, "11: the pace is told first", () -> x.open(0));
        x.come(2, 0);
        x.minutes(9);
        x.undo();
        x.undo();
        x.undo();
        due.is("11: a line opened again is new", 2, () -> x.open(4));
        due.is("11: a line opened again is empty", 0, () -> x.line(2, 1));
        due.is("11: its counter has not worked", 0, () -> x.line(2, 2));
    }

    private static void promise12Come() {
        StoodMinutes x = new StoodMinutes();
        refused(x, IndexOutOfBoundsException.class, "12: come(-1, 0)", () -> x.come(-1, 0));
        refused(x, IndexOutOfBoundsException.class, "12: come(1, 0)", () -> x.come(1, 0));
        refused(x, IndexOutOfBoundsException.class, "12: the line is told first", () -> x.come(1, 3));
        refused(x, IllegalArgumentException.class, "12: come(0, -1)", () -> x.come(0, -1));
        refused(x, IllegalArgumentException.class, "12: come(0, 3)", () -> x.come(0, 3));
        for (int p = 0; p < 12; p++) {
            int kind = p % 3;
            due.is("12: come(0, " + kind + ")", p, () -> x.come(0, kind));
        }
        due.compare("12: each stands at the end", " 0 1 2 3 4 5 6 7 8 9 10 11", row(x, 0));
        due.is("12: the kind", 2, () -> x.person(11, 0));
        refused(x, IllegalStateException.class, "12: a 13th in the line", () -> x.come(0, 0));
        refused(x, IllegalArgumentException.class, "12: the kind is told before the full line", () -> x.come(0, 3));
        x.go(5);
        due.is("12: who comes after one went away", 12, () -> x.come(0, 1));
        due.is("12: stands at the end", 12, () -> x.at(0, 11));
        x.open(1);
        x.minutes(40);
        for (int p = 13; p < 30; p++) {
            int l = p % 2;
            due.is("12: come up to 30", p, () -> x.come(l, 0));
        }
        due.is("12: in which minute it came", 40, () -> x.person(29, 7));
        refused(x, IllegalStateException.class, "12: a 31st person", () -> x.come(0, 0));
        x.minutes(60);
        refused(x, IllegalStateException.class, "12: a 31st person in an empty line", () -> x.come(1, 0));
        StoodMinutes y = Seen.withPeople(2);
        y.minutes(2);
        y.come(0, 1);
        y.come(0, 1);
        y.jump(2);
        y.jump(3);
        for (int i = 0; i < 4; i++) {
            y.undo();
        }
        y.come(0, 0);
        y.come(0, 1);
        int[] fresh = {0, 0, 2, 0, 0, 0, 0, 2, 0};
        for (int what = 0; what <= 8; what++) {
            int w = what;
            due.is("12: one who comes after undo is new: " + w, fresh[w], () -> y.person(2, w));
        }
        due.is("12: one who comes after undo may jump", 2, () -> y.jump(3));
    }

    private static void promise13Go() {
        StoodMinutes x = Seen.withPeople(3);
        refused(x, IndexOutOfBoundsException.class, "13: go(-1)", () -> x.go(-1));
        refused(x, IndexOutOfBoundsException.class, "13: go(3)", () -> x.go(3));
        x.minutes(2);
        due.is("13: go of the first one", 2, () -> x.go(0));
        due.compare("13: those behind come forward", " 1 2", row(x, 0));
        due.is("13: it is gone", 2, () -> x.person(0, 6));
        due.is("13: it stands in no line", -1, () -> x.person(0, 1));
        due.is("13: it stands at no place", -1, () -> x.person(0, 2));
        due.is("13: the counter keeps its minutes for the next one", 2, () -> x.line(0, 2));
        refused(x, IllegalStateException.class, "13: go twice", () -> x.go(0));
        due.is("13: the next one is served with them", 1, () -> x.minutes(1));
        refused(x, IllegalStateException.class, "13: go of one who is served", () -> x.go(1));
        due.is("13: one who went away stands no longer", 2, () -> x.person(0, 3));
        x.minutes(1);
        due.is("13: go of the last one", 4, () -> x.go(2));
        x.minutes(5);
        x.come(0, 0);
        due.is("13: the counter kept its minutes while the line was empty", 1, () -> x.line(0, 2));
        due.is("13: it works on with the next one", 1, () -> x.minutes(2));
    }

    private static void promise14Exchange() {
        StoodMinutes x = Seen.withPeople(4);
        x.set(2, 1);
        x.minutes(2);
        due.is("14: exchange(3, 1)", 2, () -> x.exchange(3, 1));
        due.compare("14: they change places", " 0 3 2 1", row(x, 0));
        due.is("14: the account of the one who pays", -2, () -> x.person(3, 4));
        due.is("14: the account of the other one", 2, () -> x.person(1, 4));
        due.is("14: the house pays nothing", 0, () -> x.about(8));
        due.is("14: nor to the other one", 0, () -> x.person(1, 5));
        due.is("14: the exchanges", 1, () -> x.about(6));
        refused(x, IllegalStateException.class, "14: account and minutes together are 0", () -> x.exchange(3, 0));
        due.is("14: an account of 2 and 2 minutes pay 3", 3, () -> x.exchange(1, 0));
        due.compare("14: they change places again", " 1 3 2 0", row(x, 0));
        due.is("14: the counter keeps its minutes for the new first one", 2, () -> x.line(0, 2));
        x.minutes(1);
        due.is("14: the new first one is served", 1, () -> x.person(1, 6));
    }

    private static void promise14ExchangeRefused() {
        StoodMinutes x = Seen.withPeople(4);
        x.open(3);
        x.come(1, 0);
        x.minutes(3);
        refused(x, IndexOutOfBoundsException.class, "14: exchange(-1, 1)", () -> x.exchange(-1, 1));
        refused(x, IndexOutOfBoundsException.class, "14: exchange(5, 1)", () -> x.exchange(5, 1));
        refused(x, IndexOutOfBoundsException.class, "14: exchange(2, -1)", () -> x.exchange(2, -1));
        refused(x, IndexOutOfBoundsException.class, "14: exchange(2, 5)", () -> x.exchange(2, 5));
        refused(x, IndexOutOfBoundsException.class, "14: with one who is served, and one who is not there",
                () -> x.exchange(0, 5));
        x.come(1, 0);
        refused(x, IllegalStateException.class, "14: in two lines", () -> x.exchange(2, 5));
        refused(x, IllegalStateException.class, "14: with one who is served", () -> x.exchange(1, 0));
        refused(x, IllegalStateException.class, "14: of one who is served", () -> x.exchange(0, 1));
        refused(x, IllegalStateException.class, "14: of two who are served", () -> x.exchange(4, 0));
        refused(x, IllegalStateException.class, "14: with oneself", () -> x.exchange(2, 2));
        refused(x, IllegalStateException.class, "14: with one behind", () -> x.exchange(1, 2));
        refused(x, IllegalStateException.class, "14: 4 with 3 minutes", () -> x.exchange(3, 1));
        due.is("14: 2 with 3 minutes", 2, () -> x.exchange(3, 2));
        x.set(2, 1);
        due.is("14: 1 with 3 minutes and an account of -2: together just 0", 1, () -> x.exchange(3, 1));
        refused(x, IllegalStateException.class, "14: of the first one", () -> x.exchange(3, 3));
        x.go(2);
        refused(x, IllegalStateException.class, "14: with one who is gone", () -> x.exchange(1, 2));
    }

    private static void promise15Jump() {
        StoodMinutes x = new StoodMinutes();
        for (int kind : new int[] {0, 0, 0, 1, 2}) {
            x.come(0, kind);
        }
        due.is("15: one by right jumps", 2, () -> x.jump(3));
        due.compare("15: those who are passed stand one place further back", " 0 3 1 2 4", row(x, 0));
        due.is("15: one by right pays nothing", 0, () -> x.person(3, 4));
        due.is("15: the house pays each who is passed", 2, () -> x.person(1, 4));
        due.is("15: the house pays each who is passed", 2, () -> x.person(2, 5));
        due.is("15: the house pays those who are passed alone", 0, () -> x.person(0, 5) + x.person(4, 5));
        due.is("15: what the house has paid", 4, () -> x.about(8));
        due.is("15: places gone forward", -2, () -> x.person(3, 8));
        due.is("15: places fallen back", 1, () -> x.person(2, 8));
        x.set(3, 5);
        x.set(2, 9);
        due.is("15: a hasty one jumps to the first place", 4, () -> x.jump(4));
        due.compare("15: behind a jump to the first place", " 4 0 3 1 2", row(x, 0));
        due.is("15: a hasty one pays, though its account falls below 0", -36, () -> x.person(4, 4));
        due.is("15: each who is passed is paid", 11, () -> x.person(1, 4));
        due.is("15: by the hasty one, not by the house", 2, () -> x.person(1, 5));
        due.is("15: the house pays nothing for it", 4, () -> x.about(8));
        due.is("15: the jumps", 2, () -> x.about(7));
        due.is("15: a jump is no exchange", 0, () -> x.about(6));
        x.minutes(2);
        x.undo();
        x.minutes(5);
        x.set(3, 1);
        due.is("15: a jump of one place", 1, () -> x.jump(3));
        due.is("15: the counter keeps its minutes", 2, () -> x.line(0, 2));
        due.compare("15: behind a jump of one place", " 3 0 1 2", row(x, 0));
        StoodMinutes y = Seen.withPeople(9);
        y.come(0, 2);
        y.set(2, 4);
        y.set(3, 3);
        due.is("15: a jump of 3 places for the price of 4", 3, () -> y.jump(9));
        due.compare("15: behind it", " 0 1 2 3 4 5 9 6 7 8", row(y, 0));
        due.is("15: what it cost", -12, () -> y.person(9, 4));
    }

    private static void promise15JumpRefused() {
        StoodMinutes x = new StoodMinutes();
        for (int kind : new int[] {1, 0, 2, 1}) {
            x.come(0, kind);
        }
        refused(x, IndexOutOfBoundsException.class, "15: jump(-1)", () -> x.jump(-1));
        refused(x, IndexOutOfBoundsException.class, "15: jump(4)", () -> x.jump(4));
        refused(x, IllegalStateException.class, "15: of the first one", () -> x.jump(0));
        refused(x, IllegalStateException.class, "15: of a plain one", () -> x.jump(1));
        x.go(2);
        refused(x, IllegalStateException.class, "15: of one who is gone", () -> x.jump(2));
        x.minutes(9);
        refused(x, IllegalStateException.class, "15: of one who is served", () -> x.jump(3));
    }

    private static void promise15JumpPause() {
        StoodMinutes x = new StoodMinutes();
        x.open(20);
        for (int i = 0; i < 8; i++) {
            x.come(1, 2);
        }
        due.is("15: the first jump", 2, () -> x.jump(7));
        refused(x, IllegalStateException.class, "15: a second jump at once", () -> x.jump(7));
        due.is("15: another one jumps at once", 2, () -> x.jump(6));
        x.minutes(4);
        refused(x, IllegalStateException.class, "15: a second jump 4 minutes later", () -> x.jump(7));
        x.merge(0, 1);
        refused(x, IllegalStateException.class, "15: nor in another line", () -> x.jump(7));
        x.minutes(1);
        due.is("15: a second jump 5 minutes later", 2, () -> x.jump(7));
        refused(x, IllegalStateException.class, "15: a third jump at once", () -> x.jump(7));
    }

    private static void promise16Merge() {
        StoodMinutes x = Seen.withPeople(2);
        x.open(10);
        x.come(1, 0);
        x.come(1, 0);
        x.minutes(1);
        x.come(0, 0);
        x.come(1, 0);
        x.minutes(1);
        // 0 1 4 and 2 3 5
        due.is("16: merge(1, 0)", 6, () -> x.merge(1, 0));
        due.compare("16: those who have stood longer first, of those alike the lower", " 0 1 2 3 4 5", row(x, 1));
        due.compare("16: the other one is empty", "", row(x, 0));
        due.is("16: its counter begins anew", 0, () -> x.line(0, 2));
        due.is("16: that of the one keeps its minutes", 2, () -> x.line(1, 2));
        due.is("16: all stand in the one", 1, () -> x.person(0, 1));
        due.is("16: the places changed by no exchange", 0, () -> x.person(2, 8));
        due.is("16: merge with an empty line", 6, () -> x.merge(0, 1));
        due.is("16: all stand in the one", 0, () -> x.person(5, 1));
        StoodMinutes y = Seen.withPeople(3);
        y.open(5);
        y.minutes(2);
        y.exchange(1, 0);
        y.exchange(2, 0);
        due.compare("16: by exchanges, they stand otherwise", " 1 2 0", row(y, 0));
        due.is("16: merge of an empty line", 3, () -> y.merge(0, 1));
        due.compare("16: also then those alike stand by their numbers", " 0 1 2", row(y, 0));
        due.is("16: the counter keeps its minutes", 2, () -> y.line(0, 2));
        y.go(0);
        y.go(1);
        y.go(2);
        due.is("16: merge of two empty lines", 0, () -> y.merge(1, 0));
        due.is("16: the counter of the other empty line begins anew", 0, () -> y.line(0, 2));
        StoodMinutes two = Seen.withPeople(2);
        two.open(5);
        two.minutes(2);
        two.exchange(1, 0);
        due.is("16: merge of two into an empty line", 2, () -> two.merge(1, 0));
        due.compare("16: the first two, too", " 0 1", row(two, 1));
    }

    private static void promise16MergeRefused() {
        StoodMinutes x = Seen.withPeople(7);
        x.open(2);
        for (int i = 0; i < 5; i++) {
            x.come(1, 0);
        }
        refused(x, IndexOutOfBoundsException.class, "16: merge(-1, 0)", () -> x.merge(-1, 0));
        refused(x, IndexOutOfBoundsException.class, "16: merge(2, 0)", () -> x.merge(2, 0));
        refused(x, IndexOutOfBoundsException.class, "16: merge(0, -1)", () -> x.merge(0, -1));
        refused(x, IndexOutOfBoundsException.class, "16: merge(0, 2)", () -> x.merge(0, 2));
        refused(x, IndexOutOfBoundsException.class, "16: two alike that are not there", () -> x.merge(2, 2));
        refused(x, IllegalArgumentException.class, "16: merge(1, 1)", () -> x.merge(1, 1));
        due.is("16: 12 in one line", 12, () -> x.merge(0, 1));
        x.come(1, 0);
        refused(x, IllegalStateException.class, "16: 13 in one line", () -> x.merge(0, 1));
        refused(x, IllegalStateException.class, "16: 13 in the other line", () -> x.merge(1, 0));
        refused(x, IllegalArgumentException.class, "16: a full line with itself", () -> x.merge(0, 0));
        StoodMinutes full = Seen.withPeople(12);
        full.open(2);
        due.is("16: 12 and an empty line", 12, () -> full.merge(1, 0));
    }

    private static void promise17Minutes() {
        StoodMinutes x = Seen.withPeople(3);
        refused(x, IllegalArgumentException.class, "17: minutes(0)", () -> x.minutes(0));
        refused(x, IllegalArgumentException.class, "17: minutes(61)", () -> x.minutes(61));
        refused(x, IllegalArgumentException.class, "17: minutes(-1)", () -> x.minutes(-1));
        due.is("17: nobody is served in 2 minutes", 0, () -> x.minutes(2));
        due.is("17: the counter's minutes", 2, () -> x.line(0, 2));
        due.is("17: the first one is served in the third", 1, () -> x.minutes(1));
        due.is("17: the minutes stood", 3, () -> x.person(0, 3));
        due.is("17: it is served", 1, () -> x.person(0, 6));
        due.is("17: the next one is the first one", 1, () -> x.at(0, 0));
        x.open(1);
        x.come(1, 0);
        x.come(1, 0);
        due.is("17: both counters work", 2 + 1, () -> x.minutes(4));
        due.is("17: the minutes that went by", 7, () -> x.about(0));
        due.is("17: the rest", 1, () -> x.minutes(60));
        due.is("17: minutes go by without anyone", 0, () -> x.minutes(60));
        due.is("17: the minutes that went by", 127, () -> x.about(0));
        due.is("17: one who is served stands no longer", 3, () -> x.person(0, 3));
    }

    private static void promise17Fees() {
        StoodMinutes x = new StoodMinutes();
        x.open(20);
        x.come(1, 0);
        x.come(1, 0);
        x.come(1, 0);
        x.set(0, 12);
        x.minutes(11);
        due.is("17: no fee below the limit", 0, () -> x.about(8));
        x.minutes(1);
        due.is("17: a fee each at the limit", 15, () -> x.about(8));
        x.minutes(9);
        due.is("17: no fee between", 15, () -> x.about(8));
        x.minutes(1);
        due.is("17: a fee each 10 minutes later, not for one who is served", 25, () -> x.about(8));
        due.is("17: the fees of the one who is served", 5, () -> x.person(0, 5));
        due.is("17: the fees of one who stands", 10, () -> x.person(1, 5));
        due.is("17: fees are in the account", 10, () -> x.person(2, 4));
        x.set(0, 15);
        x.set(1, 50);
        x.minutes(3);
        due.is("17: the limit as it is now, and the fee", 125, () -> x.about(8));
        x.set(0, 99);
        x.minutes(14);
        due.is("17: below a limit that was raised", 125, () -> x.about(8));
        x.set(0, 10);
        due.is("17: in the minute in which one is served", 1, () -> x.minutes(1));
        due.is("17: it is paid no fee", 60, () -> x.person(1, 5));
        due.is("17: but one who still stands is", 110, () -> x.person(2, 5));
        x.minutes(10);
        due.is("17: and once more 10 minutes later", 160, () -> x.person(2, 5));
    }

    private static void promise18Set() {
        int[][] ranges = {{30, 10, 99}, {5, 0, 50}, {2, 1, 9}, {2, 1, 5}};
        for (int what = 0; what <= 3; what++) {
            StoodMinutes x = new StoodMinutes();
            int w = what;
            int[] range = ranges[what];
            refused(x, IllegalArgumentException.class, "18: below the range of " + w, () -> x.set(w, range[1] - 1));
            refused(x, IllegalArgumentException.class, "18: above the range of " + w, () -> x.set(w, range[2] + 1));
            due.is("18: the least value of " + w, range[0], () -> x.set(w, range[1]));
            due.is("18: the greatest value of " + w, range[1], () -> x.set(w, range[2]));
            due.is("18: the setting " + w, range[2], () -> x.setting(w));
            due.is("18: the same once more", range[2], () -> x.set(w, range[2]));
            due.is("18: that is an action, too", 2, x::undo);
        }
        StoodMinutes x = new StoodMinutes();
        refused(x, IllegalArgumentException.class, "18: set(-1, 5)", () -> x.set(-1, 5));
        refused(x, IllegalArgumentException.class, "18: set(4, 5)", () -> x.set(4, 5));
    }

    private static void promise19Undo() {
        StoodMinutes x = new StoodMinutes();
        due.throwsState("19: undo of nothing", x::undo);
        for (int i = 0; i < 11; i++) {
            x.come(0, 0);
        }
        due.is("19: undo", 10, x::undo);
        due.is("19: the last one did not come", 10, () -> x.about(2));
        for (int i = 0; i < 10; i++) {
            x.minutes(1);
        }
        due.is("19: at most 14 states are remembered", 13, x::undo);
        due.is("19: a minute is taken back", 9, () -> x.about(0));
        for (int left = 12; left >= 0; left--) {
            due.is("19: undo down to the oldest state", left, x::undo);
        }
        due.is("19: the oldest state that is remembered", 6, () -> x.about(2));
        due.is("19: no minute went by", 0, () -> x.about(0));
        due.throwsState("19: undo behind the oldest state", x::undo);
        due.is("19: it stays", 6, () -> x.about(2));
        due.is("19: an action after undo", 1, () -> x.open(9));
        due.is("19: is remembered", 0, x::undo);
        due.throwsState("19: undo is no action", x::undo);
    }

    /** People of all kinds in two lines; 8 states are remembered. */
    private static StoodMinutes busy() {
        StoodMinutes x = new StoodMinutes();
        x.open(4);
        for (int kind : new int[] {0, 1, 2, 1, 2, 0}) {
            x.come(kind % 2, kind);
        }
        x.minutes(2);
        return x;
    }

    private static void promise19UndoOfEachAction() {
        List<Consumer<StoodMinutes>> actions = List.of(x -> x.open(5), x -> x.come(0, 1), x -> x.go(0),
                x -> x.exchange(2, 0), x -> x.jump(4), x -> x.jump(3), x -> x.merge(1, 0), x -> x.minutes(9),
                x -> x.set(2, 9));
        for (int i = 0; i < actions.size(); i++) {
            StoodMinutes x = busy();
            actions.get(i).accept(x);
            due.is("19: undo of action " + i, 8, x::undo);
            due.compare("19: all is as before action " + i, Seen.of(busy()), Seen.of(x));
        }
        StoodMinutes x = busy();
        x.come(0, 0);
        String late = Seen.of(x);
        x.come(0, 0);
        x.undo();
        due.compare("19: in which minute someone came is kept", late, Seen.of(x));
        Seen.write(x, "W101");
        x.save(1);
        x.minutes(5);
        x.undo();
        due.is("19: undo keeps the text", -1, x::errorPosition);
        due.is("19: undo keeps the slots", 2, () -> x.restore(1));
    }
}
