/** Refused calls: the exception that is due, and every answer afterwards the same as if the call had not been made. */
final class Refusal {
    interface Scene {
        BrigadePagers make();
    }

    interface Act {
        void on(BrigadePagers x);
    }

    private Refusal() {
    }

    static void due(String what, Class<? extends RuntimeException> want, Scene scene, Act act) {
        Check.refused(what, want, () -> act.on(scene.make()));
        Check.due("all answers after " + what, answers(() -> refused(scene, act)), answers(scene));
    }

    private static BrigadePagers refused(Scene scene, Act act) {
        BrigadePagers x = scene.make();
        try {
            act.on(x);
        } catch (RuntimeException wanted) {
            return x;
        }
        return x;
    }

    /** Each group of questions is asked of an object of its own, so that none is asked more than 512 times. */
    private static String answers(Scene scene) {
        StringBuilder told = new StringBuilder(Snapshot.of(scene.make()));
        told.append("\nbuffer ").append(buffer(scene.make()));
        told.append("\nundone ").append(undone(scene.make()));
        for (int slot = 0; slot < 2; slot++) {
            told.append("\nslot ").append(restored(scene.make(), slot));
        }
        return told.toString();
    }

    /** The length of the text buffer, and which person's name stands in it. */
    private static String buffer(BrigadePagers x) {
        int length;
        try {
            length = x.append(0, 0, 0, 0, 0) - 20;
        } catch (IllegalStateException noRoom) {
            length = 1200;
            while (isTooLong(x, length)) {
                length--;
            }
        }
        x.truncate(length);
        try {
            return length + " " + x.find(0);
        } catch (RuntimeException noName) {
            return length + " " + noName.getClass().getSimpleName();
        }
    }

    private static boolean isTooLong(BrigadePagers x, int length) {
        try {
            return x.truncate(length) != length;
        } catch (IndexOutOfBoundsException tooLong) {
            return true;
        }
    }

    private static String undone(BrigadePagers x) {
        StringBuilder told = new StringBuilder();
        try {
            for (int times = 0; times <= 10; times++) {
                told.append(x.undo()).append(' ').append(x.time()).append(' ').append(x.count(4)).append(' ')
                        .append(x.totalCost());
                for (int pager = 0; pager < x.count(1); pager++) {
                    told.append(' ').append(x.handOns(pager)).append(' ').append(x.rotation(pager, 0));
                }
                told.append(", ");
            }
        } catch (IllegalStateException atLast) {
            return told.toString();
        }
        return "undo() has no end";
    }

    private static String restored(BrigadePagers x, int slot) {
        try {
            x.restore(slot);
            return Snapshot.of(x);
        } catch (RuntimeException empty) {
            return empty.getClass().getSimpleName();
        }
    }
}
