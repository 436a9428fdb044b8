/** All promises: runs of calls by chance, each answer and each digest held against StringModel. */
public final class RandomRunsTest {
    private static final Due DUE = new Due("RandomRunsTest");
    private static final int RUNS = 12000;
    // Each call is followed by a digest(), and an object is good for 512 calls.
    private static final int CALLS = 256;
    private static final int KINDS = 51;
    private static final int[] FAR = {Integer.MIN_VALUE, Integer.MIN_VALUE + 1, -1000000, 1000000,
        Integer.MAX_VALUE - 1, Integer.MAX_VALUE};
    private static final String[] SIGNS = {"ab", ",ab", "aAbB", " ,a\t\0", ",,a",
        "@AZ[`az{ \u001b\u001c"};

    // The same chance in every test: what fails once fails again.
    private long seed;
    private final TextShelves x = new TextShelves();
    private final StringModel model = new StringModel();
    private final String signs;
    private final int run;

    private RandomRunsTest(int run) {
        this.run = run;
        seed = 7919L * run + 1;
        signs = SIGNS[run % SIGNS.length];
    }

    public static void main(String[] args) {
        for (int run = 0; run < RUNS && (run == 0 || DUE.allPassed()); run++) {
            new RandomRunsTest(run).go();
        }
        DUE.end();
    }

    private void go() {
        for (int i = 0; i < CALLS; i++) {
            int kind = any(KINDS + 14);
            if (kind < 18) {
                lays(kind);
            } else if (kind < 27) {
                asksOne(kind);
            } else if (kind < 42) {
                asksTwo(kind);
            } else if (kind < KINDS) {
                together(kind);
            } else {
                fills(kind);
            }
            DUE.is(named("digest", i), x.digest(), model.digest());
        }
    }

    private int any(int below) {
        seed = seed * 6364136223846793005L + 1442695040888963407L;
        return (int) ((seed >>> 33) % below);
    }

    private int shelf() {
        return any(20) == 0 ? FAR[any(FAR.length)] : any(10) == 0 ? any(60) - 30 : any(8);
    }

    private int sign() {
        int sort = any(16);
        if (sort == 0) {
            return any(400) - 150;
        }
        return sort == 1 ? signs.charAt(any(signs.length())) + 65536 : signs.charAt(any(signs.length()));
    }

    private int place(int shelf) {
        return any(24) == 0 ? FAR[any(FAR.length)] : any(model.at(shelf).length() + 5) - 2;
    }

    private long packed(int n) {
        long all = 0;
        for (int i = 0; i < n; i++) {
            all |= (long) signs.charAt(any(signs.length())) << 8 * i;
        }
        return any(12) == 0 ? all | 128L << 8 * any(8) : all;
    }

    private String named(String call, int... told) {
        StringBuilder name = new StringBuilder("run ").append(run).append(": ").append(call);
        for (int number : told) {
            name.append(' ').append(number);
        }
        return name.toString();
    }

    private void is(boolean got, boolean want, String call, int... told) {
        DUE.is(named(call, told), got ? 1 : 0, want ? 1 : 0);
    }

    private void is(int got, int want, String call, int... told) {
        DUE.is(named(call, told), got, want);
    }

    private void fills(int kind) {
        int s = shelf();
        int to = shelf();
        if (kind % 4 == 0) {
            int times = any(6);
            is(x.repeat(s, times, to), model.repeat(s, times, to), "repeat", s, times, to);
            return;
        }
        int n = 1 + any(8);
        long fed = packed(n);
        is(x.feed(s, fed, n), model.feed(s, fed, n), "feed", s, n);
    }

    private void lays(int kind) {
        int s = shelf();
        int o = shelf();
        int to = shelf();
        int sign = sign();
        switch (kind) {
            case 0: if (any(3) == 0) is(x.wipe(s), model.wipe(s), "wipe", s); break;
            case 1: is(x.type(s, sign), model.type(s, sign), "type", s, sign); break;
            case 2: feedsAnyNumber(s); break;
            case 3: is(x.copy(s, to), model.copy(s, to), "copy", s, to); break;
            case 4: is(x.swap(s, o), model.swap(s, o), "swap", s, o); break;
            case 5: is(x.concat(s, o, to), model.concat(s, o, to), "concat", s, o, to); break;
            case 6: {
                int from = place(s), until = place(s);
                is(x.substring(s, from, until, to), model.substring(s, from, until, to), "substring", s, from, until, to);
                break;
            }
            case 7: {
                int from = place(s);
                is(x.tail(s, from, to), model.tail(s, from, to), "tail", s, from, to);
                break;
            }
            case 8: numbers(to); break;
            case 9: {
                int by = sign();
                is(x.replaceSign(s, sign, by, to), model.replaceSign(s, sign, by, to), "replaceSign", s, sign, by, to);
                break;
            }
            case 10: {
                int third = shelf();
                is(x.replaceText(s, o, third, to), model.replaceText(s, o, third, to), "replaceText", s, o, third, to);
                break;
            }
            case 11: is(x.trim(s, to), model.trim(s, to), "trim", s, to); break;
            case 12: is(x.strip(s, to), model.strip(s, to), "strip", s, to); break;
            case 13: {
                int times = any(4) == 0 ? FAR[any(FAR.length)] : any(60) - 2;
                is(x.repeat(s, times, to), model.repeat(s, times, to), "repeat", s, times, to);
                break;
            }
            case 14: is(x.turn(s, to), model.turn(s, to), "turn", s, to); break;
            case 15: {
                int limit = any(8) == 0 ? FAR[any(FAR.length)] : any(9) - 2;
                is(x.part(s, sign, limit), model.part(s, sign, limit), "part", s, sign, limit);
                break;
            }
            case 16: {
                int piece = any(12) == 0 ? FAR[any(FAR.length)] : any(model.parts().length + 3) - 1;
                is(x.piece(piece, to), model.piece(piece, to), "piece", piece, to);
                break;
            }
            default: is(x.join(sign, to), model.join(sign, to), "join", sign, to); break;
        }
    }

    private void feedsAnyNumber(int s) {
        int n = any(5) == 0 ? FAR[any(FAR.length)] : any(12) - 1;
        long fed = packed(8);
        is(x.feed(s, fed, n), model.feed(s, fed, n), "feed any", s, n);
    }

    private void numbers(int to) {
        long value = ((long) (any(1 << 30)) << 34 ^ any(1 << 30)) >> any(62);
        value = any(2) == 0 ? -value : value;
        if (any(2) == 0) {
            is(x.number((int) value, to), model.number((int) value, to), "number", (int) value, to);
        } else {
            is(x.big(value, to), model.big(value, to), "big", to);
        }
    }

    private void asksOne(int kind) {
        int s = shelf();
        int sign = sign();
        int place = place(s);
        String text = model.at(s);
        switch (kind) {
            case 18: is(x.length(s), text.length(), "length", s); break;
            case 19: is(x.isEmpty(s), text.isEmpty(), "isEmpty", s); break;
            case 20: is(x.isBlank(s), model.isBlank(s), "isBlank", s); break;
            case 21: is(x.charAt(s, place), model.charAt(s, place), "charAt", s, place); break;
            case 22: is(x.hash(s), text.hashCode(), "hash", s); break;
            case 23: is(x.first(s, sign), text.indexOf(sign), "first", s, sign); break;
            case 24: is(x.firstFrom(s, sign, place), text.indexOf(sign, place), "firstFrom", s, sign, place); break;
            case 25: is(x.last(s, sign), text.lastIndexOf(sign), "last", s, sign); break;
            default: is(x.lastFrom(s, sign, place), text.lastIndexOf(sign, place), "lastFrom", s, sign, place); break;
        }
    }

    private void asksTwo(int kind) {
        int s = shelf();
        int o = shelf();
        int place = place(s);
        String text = model.at(s);
        String other = model.at(o);
        switch (kind) {
            case 27: is(x.find(s, o), text.indexOf(other), "find", s, o); break;
            case 28: is(x.findFrom(s, o, place), text.indexOf(other, place), "findFrom", s, o, place); break;
            case 29: is(x.findLast(s, o), text.lastIndexOf(other), "findLast", s, o); break;
            case 30: is(x.findLastFrom(s, o, place), text.lastIndexOf(other, place), "findLastFrom", s, o, place); break;
            case 31: is(x.contains(s, o), text.contains(other), "contains", s, o); break;
            case 32: is(x.starts(s, o), text.startsWith(other), "starts", s, o); break;
            case 33: is(x.startsAt(s, o, place), text.startsWith(other, place), "startsAt", s, o, place); break;
            case 34: is(x.ends(s, o), text.endsWith(other), "ends", s, o); break;
            case 35: case 36: regions(s, o, kind == 35); break;
            case 37: is(x.same(s, o), text.equals(other), "same", s, o); break;
            case 38: is(x.alike(s, o), text.equalsIgnoreCase(other), "alike", s, o); break;
            case 39: is(x.compare(s, o), text.compareTo(other), "compare", s, o); break;
            case 40: is(x.compareAlike(s, o), Integer.signum(text.compareToIgnoreCase(other)), "compareAlike", s, o); break;
            default: is(x.holds(s, o, place), true, "holds", s, o, place); break;
        }
    }

    private void regions(int s, int o, boolean caseTold) {
        int place = place(s);
        int otherPlace = place(o);
        int n = any(12) == 0 ? FAR[any(FAR.length)] : any(8) - 2;
        boolean want = model.at(s).regionMatches(!caseTold, place, model.at(o), otherPlace, n);
        if (caseTold) {
            is(x.region(s, place, o, otherPlace, n), want, "region", s, place, o, otherPlace, n);
        } else {
            is(x.regionAlike(s, place, o, otherPlace, n), want, "regionAlike", s, place, o, otherPlace, n);
        }
    }

    private void together(int kind) {
        int s = shelf();
        int o = shelf();
        switch (kind) {
            case 42: is(x.pieces(), model.parts().length, "pieces"); break;
            case 43: case 44: is(x.count(s, o), model.count(s, o), "count", s, o); break;
            case 45: is(x.head(s, o), model.head(s, o), "head", s, o); break;
            case 46: is(x.foot(s, o), model.foot(s, o), "foot", s, o); break;
            case 47: case 48: is(x.keep(s), model.keep(s), "keep", s); break;
            default: if (any(2) == 0) is(x.back(s), model.back(s), "back", s); break;
        }
    }
}
