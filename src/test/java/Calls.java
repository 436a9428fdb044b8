import java.util.LinkedHashMap;
import java.util.Map;

/** The calls of the face that are told a shelf, by name; what else they are told is the same each time. */
final class Calls {
    /** A call takes of these shelves as many as it is told. */
    interface Call {
        long of(TextShelves x, int shelf, int other, int third, int to);
    }

    static final Map<String, Call> LAYING = laying();
    static final Map<String, Call> ASKING = asking();
    static final Map<String, Call> CHANGING = changing();

    private Calls() {
    }

    private static long told(boolean answer) {
        return answer ? 1 : 0;
    }

    private static Map<String, Call> laying() {
        Map<String, Call> calls = new LinkedHashMap<>();
        calls.put("copy", (x, shelf, other, third, to) -> x.copy(shelf, to));
        calls.put("concat", (x, shelf, other, third, to) -> x.concat(shelf, other, to));
        calls.put("substring", (x, shelf, other, third, to) -> x.substring(shelf, 1, 2, to));
        calls.put("tail", (x, shelf, other, third, to) -> x.tail(shelf, 1, to));
        calls.put("number", (x, shelf, other, third, to) -> x.number(-120, to));
        calls.put("big", (x, shelf, other, third, to) -> x.big(1234567890123L, to));
        calls.put("replaceSign", (x, shelf, other, third, to) -> x.replaceSign(shelf, 'a', 'z', to));
        calls.put("replaceText", (x, shelf, other, third, to) -> x.replaceText(shelf, other, third, to));
        calls.put("trim", (x, shelf, other, third, to) -> x.trim(shelf, to));
        calls.put("strip", (x, shelf, other, third, to) -> x.strip(shelf, to));
        calls.put("repeat", (x, shelf, other, third, to) -> x.repeat(shelf, 3, to));
        calls.put("turn", (x, shelf, other, third, to) -> x.turn(shelf, to));
        calls.put("piece", (x, shelf, other, third, to) -> x.piece(1, to));
        calls.put("join", (x, shelf, other, third, to) -> x.join('-', to));
        return calls;
    }

    private static Map<String, Call> asking() {
        Map<String, Call> calls = new LinkedHashMap<>();
        calls.put("length", (x, shelf, other, third, to) -> x.length(shelf));
        calls.put("isEmpty", (x, shelf, other, third, to) -> told(x.isEmpty(shelf)));
        calls.put("isBlank", (x, shelf, other, third, to) -> told(x.isBlank(shelf)));
        calls.put("charAt", (x, shelf, other, third, to) -> x.charAt(shelf, 1));
        calls.put("hash", (x, shelf, other, third, to) -> x.hash(shelf));
        calls.put("first", (x, shelf, other, third, to) -> x.first(shelf, 'b'));
        calls.put("firstFrom", (x, shelf, other, third, to) -> x.firstFrom(shelf, 'b', 2));
        calls.put("last", (x, shelf, other, third, to) -> x.last(shelf, 'a'));
        calls.put("lastFrom", (x, shelf, other, third, to) -> x.lastFrom(shelf, 'a', 3));
        calls.put("find", (x, shelf, other, third, to) -> x.find(shelf, other));
        calls.put("findFrom", (x, shelf, other, third, to) -> x.findFrom(shelf, other, 2));
        calls.put("findLast", (x, shelf, other, third, to) -> x.findLast(shelf, other));
        calls.put("findLastFrom", (x, shelf, other, third, to) -> x.findLastFrom(shelf, other, 2));
        calls.put("contains", (x, shelf, other, third, to) -> told(x.contains(shelf, other)));
        calls.put("starts", (x, shelf, other, third, to) -> told(x.starts(shelf, other)));
        calls.put("startsAt", (x, shelf, other, third, to) -> told(x.startsAt(shelf, other, 1)));
        calls.put("ends", (x, shelf, other, third, to) -> told(x.ends(shelf, other)));
        calls.put("region", (x, shelf, other, third, to) -> told(x.region(shelf, 1, other, 0, 1)));
        calls.put("regionAlike", (x, shelf, other, third, to) -> told(x.regionAlike(shelf, 1, other, 0, 1)));
        calls.put("same", (x, shelf, other, third, to) -> told(x.same(shelf, other)));
        calls.put("alike", (x, shelf, other, third, to) -> told(x.alike(shelf, other)));
        calls.put("compare", (x, shelf, other, third, to) -> x.compare(shelf, other));
        calls.put("compareAlike", (x, shelf, other, third, to) -> x.compareAlike(shelf, other));
        calls.put("pieces", (x, shelf, other, third, to) -> x.pieces());
        calls.put("count", (x, shelf, other, third, to) -> x.count(shelf, other));
        calls.put("head", (x, shelf, other, third, to) -> x.head(shelf, other));
        calls.put("foot", (x, shelf, other, third, to) -> x.foot(shelf, other));
        calls.put("holds", (x, shelf, other, third, to) -> told(x.holds(shelf, other, 1)));
        calls.put("digest", (x, shelf, other, third, to) -> x.digest());
        return calls;
    }

    private static Map<String, Call> changing() {
        Map<String, Call> calls = new LinkedHashMap<>();
        calls.put("wipe", (x, shelf, other, third, to) -> x.wipe(shelf));
        calls.put("type", (x, shelf, other, third, to) -> x.type(shelf, 'y'));
        calls.put("feed", (x, shelf, other, third, to) -> x.feed(shelf, Due.packed("uvw"), 3));
        calls.put("swap", (x, shelf, other, third, to) -> x.swap(shelf, other));
        calls.put("part", (x, shelf, other, third, to) -> x.part(shelf, 'b', -1));
        return calls;
    }
}
