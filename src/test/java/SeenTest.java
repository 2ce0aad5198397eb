/** Promises 6 to 10: what there is. */
final class SeenTest {
    private static final Due due = new Due();

    public static void main(String[] args) {
        promise6About();
        promise7Line();
        promise8At();
        promise9Person();
        promise10Setting();
        promises6To10AreNoActions();
        due.end("SeenTest");
    }

    /** Line 0 with the pace 5, line 1 with the pace 20; all numbers differ from their beginnings. */
    private static StoodMinutes busy() {
        StoodMinutes x = new StoodMinutes();
        Seen.write(x, "W20520c00c10c20c00c11c21");
        x.load();
        x.minutes(7);
        x.exchange(3, 1);
        x.jump(2);
        x.jump(1);
        x.go(4);
        return x;
    }

    private static void promise6About() {
        // at 5, 0 is served; then 3 pays 2 * 2 to 1, so that 3 2 1 stand; 2 passes 3, then 1 by right passes both
        StoodMinutes x = busy();
        int[] numbers = {7, 2, 6, 4, 1, 1, 1, 2, 4, 4};
        for (int what = 0; what < numbers.length; what++) {
            int w = what;
            due.is("6: about(" + w + ")", numbers[w], () -> x.about(w));
        }
        due.throwsArgument("6: about(-1)", () -> x.about(-1));
        due.throwsArgument("6: about(10)", () -> x.about(10));
        StoodMinutes fees = Seen.withPeople(12);
        fees.minutes(30);
        due.is("6: fees are paid by the house", 10, () -> fees.about(8));
        due.is("6: fees are in the accounts", 10, () -> fees.about(9));
        fees.go(10);
        fees.minutes(6);
        due.is("6: those who stand", 0, () -> fees.about(3));
        due.is("6: those who are served", 11, () -> fees.about(4));
        due.is("6: fees were paid, although they who got them stand no longer", 10, () -> fees.about(8));
        due.is("6: the accounts of those who stand no longer count", 10, () -> fees.about(9));
    }

    private static void promise7Line() {
        StoodMinutes x = busy();
        int[][] numbers = {{5, 3, 2, 1, 21}, {20, 1, 7, 0, 7}};
        for (int l = 0; l < 2; l++) {
            for (int what = 0; what <= 4; what++) {
                int line = l;
                int w = what;
                due.is("7: line(" + l + ", " + what + ")", numbers[l][what], () -> x.line(line, w));
            }
        }
        due.throwsIndex("7: line(-1, 0)", () -> x.line(-1, 0));
        due.throwsIndex("7: line(2, 0)", () -> x.line(2, 0));
        due.throwsIndex("7: the line is told before the number", () -> x.line(2, 5));
        due.throwsArgument("7: line(0, -1)", () -> x.line(0, -1));
        due.throwsArgument("7: line(1, 5)", () -> x.line(1, 5));
        x.go(5);
        due.is("7: an empty line's counter keeps its minutes", 7, () -> x.line(1, 2));
        due.is("7: nobody stood in an empty line", 0, () -> x.line(1, 4));
        x.minutes(3);
        due.is("7: the counter of an empty line does not work", 7, () -> x.line(1, 2));
        due.is("7: it begins anew with the next one", 0, () -> x.line(0, 2));
        due.is("7: served so far", 2, () -> x.line(0, 3));
    }

    private static void promise8At() {
        StoodMinutes x = busy();
        int[] row = {1, 2, 3, -1, -1};
        for (int k = 0; k < row.length; k++) {
            int place = k;
            due.is("8: at(0, " + k + ")", row[k], () -> x.at(0, place));
        }
        due.is("8: at(1, 0)", 5, () -> x.at(1, 0));
        due.is("8: at(1, 1)", -1, () -> x.at(1, 1));
        due.is("8: at(0, 12)", -1, () -> x.at(0, 12));
        due.is("8: at(0, the greatest int)", -1, () -> x.at(0, Integer.MAX_VALUE));
        due.throwsArgument("8: at(0, -1)", () -> x.at(0, -1));
        due.throwsIndex("8: at(2, 0)", () -> x.at(2, 0));
        due.throwsIndex("8: the line is told before the place", () -> x.at(-1, -1));
        StoodMinutes full = Seen.withPeople(12);
        due.is("8: the last of 12", 11, () -> full.at(0, 11));
        due.is("8: behind the last of 12", -1, () -> full.at(0, 12));
    }

    private static void promise9Person() {
        StoodMinutes x = busy();
        x.come(1, 2);
        // 3 paid 4 to 1, 2 paid 2 to 3, the house paid 2 each to 2 and 3; all came back to their places
        int[][] numbers = {
            {0, -1, -1, 5, 0, 0, 1, 0, 0},
            {1, 0, 0, 7, 4, 0, 0, 0, 0},
            {2, 0, 1, 7, 0, 2, 0, 0, 0},
            {0, 0, 2, 7, 0, 2, 0, 0, 0},
            {1, -1, -1, 7, 0, 0, 2, 0, 0},
            {2, 1, 0, 7, 0, 0, 0, 0, 0},
            {2, 1, 1, 0, 0, 0, 0, 7, 0}};
        for (int p = 0; p < numbers.length; p++) {
            for (int what = 0; what <= 8; what++) {
                int one = p;
                int w = what;
                due.is("9: person(" + p + ", " + what + ")", numbers[p][what], () -> x.person(one, w));
            }
        }
        due.throwsIndex("9: person(-1, 0)", () -> x.person(-1, 0));
        due.throwsIndex("9: person(7, 0)", () -> x.person(7, 0));
        due.throwsIndex("9: the person is told before the number", () -> x.person(7, 9));
        due.throwsArgument("9: person(0, -1)", () -> x.person(0, -1));
        due.throwsArgument("9: person(0, 9)", () -> x.person(0, 9));
        StoodMinutes y = Seen.withPeople(4);
        y.minutes(2);
        y.set(2, 1);
        y.exchange(2, 0);
        due.is("9: one between those who exchange keeps its place", 1, () -> y.person(1, 2));
        due.is("9: one between those who exchange does not fall back", 0, () -> y.person(1, 8));
        due.is("9: one who exchanges goes forward by the places between", -2, () -> y.person(2, 8));
        due.is("9: the other one falls back by them", 2, () -> y.person(0, 8));
        y.go(2);
        due.is("9: one who comes forward as another goes away did so by no exchange", 0, () -> y.person(1, 8));
    }

    private static void promise10Setting() {
        StoodMinutes x = new StoodMinutes();
        int[] first = {30, 5, 2, 2};
        int[] then = {10, 50, 9, 5};
        for (int what = 0; what <= 3; what++) {
            int w = what;
            due.is("10: setting(" + w + ") at first", first[w], () -> x.setting(w));
            x.set(w, then[w]);
            due.is("10: setting(" + w + ") then", then[w], () -> x.setting(w));
        }
        due.throwsArgument("10: setting(-1)", () -> x.setting(-1));
        due.throwsArgument("10: setting(4)", () -> x.setting(4));
    }

    private static void promises6To10AreNoActions() {
        StoodMinutes x = Seen.withPeople(1);
        Seen.of(x);
        due.is("6 to 10: what is seen is no action", 0, x::undo);
    }
}
