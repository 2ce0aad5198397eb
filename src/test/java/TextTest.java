/** Promises 1 to 5: a new object, and the text. */
final class TextTest {
    private static final Due due = new Due();

    public static void main(String[] args) {
        promise1NewObject();
        promise2Append();
        promise3ClearText();
        promise4ErrorPosition();
        promise4EveryPlaceOfADay();
        promise5Load();
        promise5LoadForgets();
        promise5LoadRefused();
        due.end("TextTest");
    }

    private static void promise1NewObject() {
        StoodMinutes x = new StoodMinutes();
        due.compare("1: what is seen of a new object",
                " 0 1 0 0 0 0 0 0 0 0 30 5 2 2 / line 0: 3 0 0 0 0 row -1", Seen.of(x));
        due.is("1: the text of a new object is empty", 0, x::clearText);
        due.throwsState("1: nothing is remembered in a new object", x::undo);
        due.throwsState("1: nothing is saved in a new object", () -> x.restore(0));
        due.is("NONE", -1, () -> StoodMinutes.NONE);
    }

    private static void promise2Append() {
        StoodMinutes x = new StoodMinutes();
        due.throwsArgument("2: append(-1)", () -> x.append(-1));
        due.throwsArgument("2: append(256)", () -> x.append(256));
        due.throwsArgument("2: append(the least int)", () -> x.append(Integer.MIN_VALUE));
        due.is("2: append(0)", 1, () -> x.append(0));
        due.is("2: append(255)", 2, () -> x.append(255));
        for (int i = 3; i <= 100; i++) {
            due.is("2: append up to 100", i, () -> x.append('W'));
        }
        due.throwsState("2: append behind 100", () -> x.append('W'));
        due.throwsArgument("2: a wrong character is told before the full text", () -> x.append(256));
        due.is("2: refused characters are not in the text", 100, x::clearText);
        due.is("2: append after clearText", 1, () -> x.append('W'));
        due.throwsState("2: append is no action", x::undo);
    }

    private static void promise3ClearText() {
        StoodMinutes x = new StoodMinutes();
        due.is("3: clearText of nothing", 0, x::clearText);
        Seen.write(x, "W103");
        due.is("3: clearText", 4, x::clearText);
        due.is("3: clearText once more", 0, x::clearText);
        due.is("3: the text is empty", 0, x::errorPosition);
        due.throwsState("3: clearText is no action", x::undo);
    }

    private static void error(int position, String text) {
        StoodMinutes x = new StoodMinutes();
        Seen.write(x, text);
        due.is("4: errorPosition of " + text, position, x::errorPosition);
        due.is("4: errorPosition keeps the text " + text, text.length(), x::clearText);
    }

    private static void promise4ErrorPosition() {
        for (String day : new String[] {"W101", "W120", "W119", "W3010120", "W20304c00", "W103g29x0029j00t1t9c22"}) {
            error(-1, day);
        }
        error(0, "");
        error(0, "w101");
        error(0, " W101");
        error(0, "V101");
        error(0, "X101");
        error(3, "W11:");
        error(3, "W11/");
        error(1, "W");
        error(1, "W0");
        error(1, "W4");
        error(2, "W1");
        error(2, "W130");
        error(3, "W100");
        error(3, "W121");
        error(3, "W12");
        error(3, "W1" + "0" + ":");
        error(4, "W203");
        error(6, "W30304");
        error(6, "W20304 ");
        error(6, "W2030405");
        error(4, "W101z");
        error(4, "W101C00");
        error(4, "W101" + (char) 255);
        error(4, "W101" + (char) 0);
    }

    private static void promise4EveryPlaceOfADay() {
        error(5, "W101c");
        error(5, "W101c3");
        error(6, "W101c2");
        error(6, "W101c03");
        error(5, "W101g");
        error(5, "W101g3");
        error(6, "W101g2");
        error(6, "W101g2a");
        error(5, "W101x30");
        error(6, "W101x0");
        error(7, "W101x00");
        error(7, "W101x0030");
        error(8, "W101x002");
        error(8, "W101x002-");
        error(5, "W101j3");
        error(6, "W101j0/");
        error(6, "W101j0:");
        error(5, "W101t:");
        error(5, "W101c/0");
        error(6, "W101c0/");
        error(5, "W101t");
        error(5, "W101t0");
        error(6, "W101t10");
        String full = "W101" + "c00".repeat(32);
        error(-1, full);
        error(99, full.substring(0, 99) + "3");
        error(100, "W101" + "t1" + "c00".repeat(31) + "g");
    }

    private static void promise5Load() {
        StoodMinutes x = new StoodMinutes();
        // 0 and 2 by line 0, 1 by line 1; nobody stands in line 2, and nobody has the number 29
        Seen.write(x, "W20710c00c11c20c12t4x2000x0201j02g01g01j29g29");
        due.is("5: the text is a day", -1, x::errorPosition);
        due.is("5: commands left out", 6, x::load);
        due.compare("5: what is seen behind the day",
                " 4 2 3 2 0 1 0 1 0 0 30 5 2 2"
                        + " / line 0: 7 2 4 0 8 row 2 0 -1 / line 1: 10 0 4 0 0 row -1"
                        + " / person 0: 0 0 1 4 2 0 0 0 1"
                        + " / person 1: 1 -1 -1 4 0 0 2 0 0"
                        + " / person 2: 2 0 0 4 -2 0 0 0 -1",
                Seen.of(x));
        due.is("5: load keeps the text", 45, x::clearText);
        Seen.write(x, "W104c00c10t1x0100t1x0100x0001c20t9");
        due.is("5: an exchange that would cost too much is left out", 1, x::load);
        due.compare("5: what is seen behind the exchanges",
                " 11 1 3 1 2 0 2 0 0 0 30 5 2 2 / line 0: 4 1 3 2 9 row 2 -1"
                        + " / person 0: 0 -1 -1 4 0 0 1 0 0"
                        + " / person 1: 1 -1 -1 8 0 0 1 0 0"
                        + " / person 2: 2 0 0 9 0 0 0 2 0",
                Seen.of(x));
    }

    private static void promise5LoadForgets() {
        StoodMinutes x = Seen.withPeople(3);
        x.come(0, 1);
        x.set(0, 10);
        x.open(4);
        x.minutes(2);
        x.exchange(1, 0);
        x.jump(3);
        x.set(1, 9);
        x.set(2, 9);
        x.set(3, 1);
        x.minutes(30);
        x.save(0);
        x.save(1);
        Seen.write(x, "W120");
        due.is("5: load of a day without commands", 0, x::load);
        due.compare("5: everything is as in a new object, with the lines of the text",
                " 0 1 0 0 0 0 0 0 0 0 30 5 2 2 / line 0: 20 0 0 0 0 row -1", Seen.of(x));
        due.throwsState("5: load remembers no state", x::undo);
        due.throwsState("5: load empties slot 0", () -> x.restore(0));
        due.throwsState("5: load empties slot 1", () -> x.restore(1));
        Seen.write(x, "c00t3");
        due.is("5: load again, from the start", 0, x::load);
        due.is("5: the minutes of the second load", 3, () -> x.about(0));
        due.is("5: the people of the second load", 1, () -> x.about(2));
        int[] fresh = {0, 0, 0, 3, 0, 0, 0, 0, 0};
        for (int what = 0; what <= 8; what++) {
            int w = what;
            due.is("5: nothing is left of the person 0 before: " + w, fresh[w], () -> x.person(0, w));
        }
        due.throwsState("5: commands of a text are no actions", x::undo);
    }

    private static void promise5LoadRefused() {
        StoodMinutes x = Seen.withPeople(2);
        x.minutes(1);
        x.save(1);
        Seen.write(x, "W101c00t");
        String before = Seen.of(x);
        due.throwsState("5: load of no day", x::load);
        due.compare("5: a refused load changes nothing", before, Seen.of(x));
        due.is("5: a refused load keeps the text", 8, x::clearText);
        due.is("5: a refused load keeps the slots", 1, () -> x.restore(1));
        StoodMinutes y = Seen.withPeople(2);
        due.throwsState("5: load of the empty text", y::load);
        due.is("5: a refused load keeps what is remembered", 1, y::undo);
    }
}
