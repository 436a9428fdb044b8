import java.util.function.Consumer;
import java.util.function.ToLongFunction;

/**
 * Two objects made alike, each time anew. A call that is refused, or that only asks, is made to one of
 * them alone: then both must still have the same texts, pieces and images.
 */
final class Twins {
    private static final int SHELVES = 8;
    private static final int ENDS_READ = 6;
    private static final int PIECES_READ = 12;

    private final Due due;
    private final Consumer<TextShelves> making;

    Twins(Due due, Consumer<TextShelves> making) {
        this.due = due;
        this.making = making;
    }

    Twins(Due due, String... texts) {
        this(due, x -> {
            for (int i = 0; i < texts.length; i++) {
                Due.put(x, i, texts[i]);
            }
        });
    }

    void refuse(String call, long answer, ToLongFunction<TextShelves> refused) {
        TextShelves one = made();
        due.is(call, refused.applyAsLong(one), answer);
        same(call, one, made());
    }

    void ask(String call, Consumer<TextShelves> asked) {
        TextShelves one = made();
        asked.accept(one);
        same(call, one, made());
    }

    /** Both images and the pieces are of texts that no shelf has any more. */
    private TextShelves made() {
        TextShelves x = new TextShelves();
        partAndWipe(x, "first,kept,", ',');
        Due.put(x, 6, "image");
        x.keep(0);
        partAndWipe(x, "then this", ' ');
        x.keep(1);
        x.wipe(6);
        partAndWipe(x, ";x;;yz;", ';');
        making.accept(x);
        return x;
    }

    private static void partAndWipe(TextShelves x, String text, int sign) {
        Due.put(x, 7, text);
        x.part(7, sign, -1);
        x.wipe(7);
    }

    private void same(String call, TextShelves one, TextShelves twin) {
        due.is(call + ", then digest()", one.digest(), twin.digest());
        for (int shelf = 0; shelf < SHELVES; shelf++) {
            sameText(call, one, twin, shelf);
        }
        samePieces(call, one, twin);
        for (int image = 0; image < 2; image++) {
            due.is(call + ", then back(" + image + ")", one.back(image), twin.back(image));
            due.is(call + ", then digest() of image " + image, one.digest(), twin.digest());
        }
    }

    private void sameText(String call, TextShelves one, TextShelves twin, int shelf) {
        int length = twin.length(shelf);
        due.is(call + ", then length(" + shelf + ")", one.length(shelf), length);
        due.is(call + ", then hash(" + shelf + ")", one.hash(shelf), twin.hash(shelf));
        for (int i = 0; i < Math.min(length, ENDS_READ); i++) {
            int last = length - 1 - i;
            due.is(call + ", then charAt(" + shelf + ", " + i + ")", one.charAt(shelf, i), twin.charAt(shelf, i));
            due.is(call + ", then charAt(" + shelf + ", " + last + ")",
                one.charAt(shelf, last), twin.charAt(shelf, last));
        }
    }

    private void samePieces(String call, TextShelves one, TextShelves twin) {
        int pieces = twin.pieces();
        due.is(call + ", then pieces()", one.pieces(), pieces);
        for (int i = 0; i < Math.min(pieces, PIECES_READ); i++) {
            due.is(call + ", then piece(" + i + ", 7)", one.piece(i, 7), twin.piece(i, 7));
            due.is(call + ", then hash() of piece " + i, one.hash(7), twin.hash(7));
        }
    }
}
