/** What reading a text must answer: a fault with its place, or a sound book. */
final class Reading {
    private Reading() {
    }

    static void faulty(String text, int fault, int place) {
        LentMasks x = new LentMasks();
        Check.refused(x, text, Town.book(x, text), -1, 4);
        Check.same(text + ": fault", x.fault(), fault);
        Check.same(text + ": where", x.where(), place);
    }

    static void faultyEnd(String text, int fault) {
        faulty(text, fault, text.length());
    }

    /** The fault is at the last token of the text, which has this many bytes. */
    static void faultyLast(String text, int length, int fault) {
        faulty(text, fault, text.length() - length);
    }

    /** A ^ stands ahead of the place of the fault; the text itself is without it. */
    static void marked(String text, int fault) {
        faulty(text.replace("^", ""), fault, text.indexOf('^'));
    }

    static void sound(String text, int masks) {
        LentMasks x = new LentMasks();
        Check.given(x, text, Town.book(x, text), masks);
        Check.same(text + ": fault", x.fault(), 0);
        Check.same(text + ": where", x.where(), -1);
    }

    /** A whole that stands between these two is sound from the least to the most, and a fault beside them. */
    static void bounds(String ahead, int least, int most, String behind) {
        int masks = (ahead + behind).split("mask ", -1).length - 1;
        sound(ahead + least + behind, masks);
        sound(ahead + most + behind, masks);
        faulty(ahead + (most + 1) + behind, 4, ahead.length());
        faulty(ahead + "999" + behind, 4, ahead.length());
        if (least > 0) {
            faulty(ahead + (least - 1) + behind, 4, ahead.length());
            faulty(ahead + "000" + behind, 4, ahead.length());
        } else {
            sound(ahead + "000" + behind, masks);
        }
    }
}
