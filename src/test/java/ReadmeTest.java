/** The example of README.md answers as that page says. */
public final class ReadmeTest {
    public static void main(String[] args) {
        LentMasks town = new LentMasks();
        byte[] text = ("town days 3;work mill;mask ox plain size 5 credit 50"
                + ";person ann size 5 honour 70 does mill;person bob size 4 honour 20"
                + ";promise ox mill on 2 worth 10 fine 4 effort 3;lent ox to ann from 1 until 2").getBytes();
        for (int from = 0; from < text.length; from += 20) {
            int[] n = new int[5];
            for (int i = 0; i < 20; i++) {
                n[i / 4] = n[i / 4] << 8 | (from + i < text.length ? text[from + i] : ' ');
            }
            town.feed(n[0], n[1], n[2], n[3], n[4]);
        }
        Check.given(town, "book", town.book(text.length), 1);
        Check.given(town, "wearer", town.wearer(0, 2), 0);
        Check.given(town, "done", town.done(0), 1);
        Check.given(town, "credit", town.credit(0, 3), 60);
        Check.done(town, "pass", town.pass(0, 2, 1));
        Check.given(town, "debt", town.debt(1, 3), 4);
        Check.done(town, "undo", town.undo());
        Check.refused(town, "lend", town.lend(0, 1, 2, 3), 5);
        Check.end();
    }
}
