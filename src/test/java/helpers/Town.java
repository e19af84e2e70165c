import java.nio.charset.StandardCharsets;

/** Puts texts on the tape, and has the towns that several tests use. */
final class Town {
    private Town() {
    }

    /** Three masks, three persons, as in the shared test. */
    static final String MARKET = String.join(";",
            "town days 4",
            "work mill,bake",
            "mask ox plain size 5 credit 50",
            "mask cat double size 4 credit 10",
            "mask bear king size 5 credit 90",
            "person ann size 5 honour 70 does mill",
            "person bob size 4 honour 20 habit 2 does mill,bake",
            "person kid size 2 honour 50 child",
            "promise ox mill on 1 worth 10 fine 4 effort 3",
            "promise ox bake on 2 worth 20 fine 8 effort 9",
            "promise cat bake on 2 worth 5 fine 2 effort 1",
            "promise cat mill on 2 worth 6 fine 3 effort 2",
            "promise cat mill on 2 worth 7 fine 1 effort 1",
            "promise bear mill on 3 worth 30 fine 30 effort 5",
            "lent ox to ann from 1 until 2",
            "lent cat to bob from 2 until 3",
            "break bob on 3");

    static byte[] bytes(String text) {
        return text.getBytes(StandardCharsets.ISO_8859_1);
    }

    /** Feeds whole calls, so blanks come behind the text. */
    static int feed(LentMasks x, byte[] text) {
        int last = x.size(11);
        for (int from = 0; from < text.length; from += 20) {
            int[] n = new int[5];
            for (int i = 0; i < 20; i++) {
                int b = from + i < text.length ? text[from + i] & 255 : ' ';
                n[i / 4] = n[i / 4] << 8 | b;
            }
            last = x.feed(n[0], n[1], n[2], n[3], n[4]);
        }
        return last;
    }

    static int book(LentMasks x, String text) {
        byte[] bytes = bytes(text);
        feed(x, bytes);
        return x.book(bytes.length);
    }

    static LentMasks of(String text) {
        LentMasks x = new LentMasks();
        if (book(x, text) < 0) {
            System.out.println("a text that should be sound has fault " + x.fault() + " at " + x.where() + ": " + text);
            System.exit(1);
        }
        return x;
    }
}
