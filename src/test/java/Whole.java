import java.util.function.Supplier;

/**
 * All that can be found out about an object, as one text: what is seen, the text, the remembered states,
 * the slots, who may jump. As asking changes it, the same object is made again for each question.
 */
final class Whole {
    private Whole() {
    }

    static String of(Supplier<StoodMinutes> made) {
        StringBuilder all = new StringBuilder(Seen.of(made.get()));
        StoodMinutes text = made.get();
        all.append("\ntext ").append(text.errorPosition()).append(' ').append(text.clearText());
        all.append("\nloaded ").append(after(made, StoodMinutes::load));
        int undos = 1;
        while (undos < 20 && addUndo(all, made, undos)) {
            undos++;
        }
        for (int slot = 0; slot <= 1; slot++) {
            int s = slot;
            all.append("\nslot ").append(slot).append(after(made, x -> x.restore(s)));
        }
        for (int p = 0; p < made.get().about(2); p++) {
            int one = p;
            all.append("\njump of ").append(p).append(answer(made.get(), x -> x.jump(one)));
        }
        return all.toString();
    }

    private interface Step {
        int of(StoodMinutes x);
    }

    private static String answer(StoodMinutes x, Step step) {
        try {
            return " " + step.of(x);
        } catch (RuntimeException e) {
            return " " + e.getClass().getName();
        }
    }

    private static String after(Supplier<StoodMinutes> made, Step step) {
        StoodMinutes x = made.get();
        return answer(x, step) + Seen.of(x);
    }

    /** Adds what that many undos leave; answers whether the last one of them took something back. */
    private static boolean addUndo(StringBuilder all, Supplier<StoodMinutes> made, int undos) {
        StoodMinutes x = made.get();
        String answer = "";
        for (int i = 0; i < undos; i++) {
            answer = answer(x, StoodMinutes::undo);
        }
        all.append("\nundo ").append(undos).append(answer).append(Seen.of(x));
        return Character.isDigit(answer.charAt(1));
    }
}
