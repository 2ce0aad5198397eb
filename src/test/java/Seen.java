/** What can be seen of an object from outside, as one text; asks at most 340 calls. */
final class Seen {
    private Seen() {
    }

    static String of(StoodMinutes x) {
        StringBuilder all = new StringBuilder();
        for (int what = 0; what <= 9; what++) {
            all.append(' ').append(x.about(what));
        }
        for (int what = 0; what <= 3; what++) {
            all.append(' ').append(x.setting(what));
        }
        int lines = x.about(1);
        for (int l = 0; l < lines; l++) {
            all.append(" / line ").append(l).append(':');
            for (int what = 0; what <= 4; what++) {
                all.append(' ').append(x.line(l, what));
            }
            all.append(" row");
            int length = x.line(l, 1);
            for (int k = 0; k <= length; k++) {
                all.append(' ').append(x.at(l, k));
            }
        }
        int people = x.about(2);
        for (int p = 0; p < people; p++) {
            all.append(" / person ").append(p).append(':');
            for (int what = 0; what <= 8; what++) {
                all.append(' ').append(x.person(p, what));
            }
        }
        return all.toString();
    }

    /** Appends a text to the object's buffer. */
    static void write(StoodMinutes x, String text) {
        for (int i = 0; i < text.length(); i++) {
            x.append(text.charAt(i));
        }
    }

    /** A new object with that many plain people in line 0. */
    static StoodMinutes withPeople(int count) {
        StoodMinutes x = new StoodMinutes();
        for (int i = 0; i < count; i++) {
            x.come(0, 0);
        }
        return x;
    }
}
