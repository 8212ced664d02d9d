import java.util.ArrayList;
import java.util.List;
import java.util.Set;

/** An order and a product as tables; all else is looked for by what the document says that it is. */
final class PlainAlgebra {
    static final List<String> CALLS = List.of("chain", "tell", "times", "sum", "ofFrame", "elements", "isRight", "make",
            "isBelow", "keeps", "filters", "isSimple", "isOne", "areAlike", "isPart", "part", "count", "classes");

    final int n;
    final boolean[][] atMost;
    final int[][] times;
    boolean isByHand;
    private Boolean isRight;
    private final int[][][] made = new int[5][][];

    private interface Relation {
        boolean holds(int a, int b);
    }

    private interface Operation {
        int make(int a, int b);
    }

    private PlainAlgebra(int n, Relation order, Operation product) {
        this.n = n;
        // More than 8 elements are refused by who asks for it.
        int kept = n > 8 ? 0 : n;
        atMost = new boolean[kept][kept];
        times = new int[kept][kept];
        for (int a = 0; a < kept; a++) {
            for (int b = 0; b < kept; b++) {
                atMost[a][b] = order.holds(a, b);
                times[a][b] = product.make(a, b);
            }
        }
    }

    static PlainAlgebra chain(char kind, int n) {
        int t = n - 1;
        PlainAlgebra result = new PlainAlgebra(n, (a, b) -> a <= b, (a, b) -> {
            switch (kind) {
                case 'l':
                    return a + b - t < 0 ? 0 : a + b - t;
                case 'g':
                    return a < b ? a : b;
                default:
                    return a == t ? b : b == t ? a : 0;
            }
        });
        result.isByHand = kind == 'h';
        return result;
    }

    static PlainAlgebra pairs(PlainAlgebra one, PlainAlgebra other) {
        int m = other.n;
        return new PlainAlgebra(one.n * m, (a, b) -> one.atMost[a / m][b / m] && other.atMost[a % m][b % m],
                (a, b) -> one.times[a / m][b / m] * m + other.times[a % m][b % m]);
    }

    static PlainAlgebra sum(PlainAlgebra one, PlainAlgebra other) {
        int others = one.n - 1;
        return new PlainAlgebra(others + other.n, (a, b) -> {
            if (a < others && b < others) {
                return one.atMost[a][b];
            }
            return a < others || (b >= others && other.atMost[a - others][b - others]);
        }, (a, b) -> {
            if (a < others && b < others) {
                int product = one.times[a][b];
                return product == one.n - 1 ? others + 0 : product;
            }
            if (a >= others && b >= others) {
                return others + other.times[a - others][b - others];
            }
            return a < others ? a : b;
        });
    }

    static PlainAlgebra ofSets(List<Set<Integer>> sets) {
        return new PlainAlgebra(sets.size(), (a, b) -> sets.get(b).containsAll(sets.get(a)), (a, b) -> {
            List<Integer> common = new ArrayList<>(sets.get(a));
            common.retainAll(sets.get(b));
            return sets.indexOf(Set.copyOf(common));
        });
    }

    boolean lacks(Object element) {
        return (Integer) element < 0 || (Integer) element >= n;
    }

    /** What was looked for holds no more as the product has changed. */
    void forget() {
        isRight = null;
        for (int i = 0; i < made.length; i++) {
            made[i] = null;
        }
    }

    boolean isRight() {
        if (isRight == null) {
            isRight = findRight();
        }
        return isRight;
    }

    private boolean findRight() {
        for (int a = 0; a < n; a++) {
            if (!atMost[0][a] || !atMost[a][n - 1] || times[a][n - 1] != a || times[n - 1][a] != a) {
                return false;
            }
            for (int b = 0; b < n; b++) {
                for (char by : "&|<>".toCharArray()) {
                    if (find(by, a, b) < 0) {
                        return false;
                    }
                }
                for (int c = 0; c < n; c++) {
                    if (times[times[a][b]][c] != times[a][times[b][c]]
                            || (atMost[a][b] && !(atMost[times[a][c]][times[b][c]] && atMost[times[c][a]][times[c][b]]))) {
                        return false;
                    }
                }
            }
        }
        return true;
    }

    int make(char by, int a, int b) {
        int which = "*&|<>".indexOf(by);
        if (made[which] == null) {
            int[][] table = new int[n][n];
            for (int i = 0; i < n; i++) {
                for (int k = 0; k < n; k++) {
                    table[i][k] = find(by, i, k);
                }
            }
            made[which] = table;
        }
        return made[which][a][b];
    }

    /** An element that does what it has to and is above, or below, all that do; -1 if there is none. */
    private int find(char by, int a, int b) {
        if (by == '*') {
            return times[a][b];
        }
        for (int x = 0; x < n; x++) {
            boolean isIt = does(by, a, b, x);
            for (int y = 0; y < n && isIt; y++) {
                isIt = !does(by, a, b, y) || (by == '|' ? atMost[x][y] : atMost[y][x]);
            }
            if (isIt) {
                return x;
            }
        }
        return -1;
    }

    private boolean does(char by, int a, int b, int x) {
        switch (by) {
            case '&':
                return atMost[x][a] && atMost[x][b];
            case '|':
                return atMost[a][x] && atMost[b][x];
            case '<':
                return atMost[times[a][x]][b];
            default:
                return atMost[times[x][b]][a];
        }
    }

    boolean keeps(char law) {
        boolean result = true;
        for (int a = 0; a < n; a++) {
            for (int c = 0; c < n; c++) {
                switch (law) {
                    case 'c':
                        result &= times[a][c] == times[c][a];
                        break;
                    case 'i':
                        result &= times[a][a] == a;
                        break;
                    case 'p':
                        result &= make('|', make('<', a, c), make('<', c, a)) == n - 1;
                        break;
                    case 'd':
                        result &= times[a][make('<', a, c)] == make('&', a, c);
                        break;
                    case 'n':
                        result &= make('<', make('<', a, 0), 0) == a;
                        break;
                    case 'b':
                        result &= make('|', a, make('<', a, 0)) == n - 1;
                        break;
                    default:
                        result &= atMost[a][c] || atMost[c][a];
                        break;
                }
            }
        }
        return result;
    }

    List<Integer> filters(boolean areNormal) {
        List<Integer> result = new ArrayList<>();
        for (int set = 0; set < 1 << n; set++) {
            boolean isIt = has(set, n - 1);
            for (int a = 0; a < n; a++) {
                for (int b = 0; b < n; b++) {
                    if (has(set, a)) {
                        isIt &= !atMost[a][b] || has(set, b);
                        isIt &= !has(set, b) || has(set, times[a][b]);
                        isIt &= !areNormal || has(set, make('<', b, times[a][b]));
                        isIt &= !areNormal || has(set, make('>', times[b][a], b));
                    }
                }
            }
            if (isIt) {
                result.add(set);
            }
        }
        return result;
    }

    private static boolean has(int set, int a) {
        return (set >> a & 1) != 0;
    }

    boolean isOne() {
        List<Integer> others = filters(true);
        others.remove((Object) (1 << n - 1));
        for (int least : others) {
            boolean isIt = true;
            for (int other : others) {
                isIt &= (least & ~other) == 0;
            }
            if (isIt) {
                return true;
            }
        }
        return false;
    }

    /** The least of all sets that have the elements and what they have to. */
    int part(int elements) {
        int best = (1 << n) - 1;
        for (int set = 0; set < 1 << n; set++) {
            boolean isIt = (elements & ~set) == 0 && has(set, 0) && has(set, n - 1);
            for (int a = 0; a < n && isIt; a++) {
                for (int b = 0; b < n; b++) {
                    for (char by : "*&|<>".toCharArray()) {
                        isIt &= !has(set, a) || !has(set, b) || has(set, make(by, a, b));
                    }
                }
            }
            if (isIt && Integer.bitCount(set) < Integer.bitCount(best)) {
                best = set;
            }
        }
        return best;
    }

    /** Of all ways to put the elements into classes, the one with the fewest that does not go wrong. */
    int classes(int designated) {
        return fewest(new int[n], 0, 0, designated);
    }

    private int fewest(int[] classOf, int at, int used, int designated) {
        if (at == n) {
            return isCongruence(classOf) ? used : n;
        }
        int best = n;
        for (int c = 0; c <= used; c++) {
            boolean isMixed = false;
            for (int a = 0; a < at; a++) {
                isMixed |= classOf[a] == c && has(designated, a) != has(designated, at);
            }
            if (!isMixed) {
                classOf[at] = c;
                best = Math.min(best, fewest(classOf, at + 1, Math.max(used, c + 1), designated));
            }
        }
        return best;
    }

    private boolean isCongruence(int[] classOf) {
        for (int a = 0; a < n; a++) {
            for (int b = 0; b < a; b++) {
                for (int c = 0; c < n && classOf[a] == classOf[b]; c++) {
                    for (char by : "*&|<>".toCharArray()) {
                        if (classOf[make(by, a, c)] != classOf[make(by, b, c)]
                                || classOf[make(by, c, a)] != classOf[make(by, c, b)]) {
                            return false;
                        }
                    }
                }
            }
        }
        return true;
    }

    /** Whether a map one to one keeps the order both ways, 0, the greatest element and what is named. */
    static boolean canMap(PlainAlgebra one, PlainAlgebra other, String kept) {
        return canMap(one, other, kept, new int[one.n], 0);
    }

    private static boolean canMap(PlainAlgebra one, PlainAlgebra other, String kept, int[] map, int at) {
        if (at == one.n) {
            return isKept(one, other, kept, map);
        }
        for (int to = 0; to < other.n; to++) {
            map[at] = to;
            boolean isSo = (at == 0) == (to == 0) && (at == one.n - 1) == (to == other.n - 1);
            for (int a = 0; a < at; a++) {
                isSo &= map[a] != to && one.atMost[a][at] == other.atMost[map[a]][to]
                        && one.atMost[at][a] == other.atMost[to][map[a]];
            }
            if (isSo && canMap(one, other, kept, map, at + 1)) {
                return true;
            }
        }
        return false;
    }

    private static boolean isKept(PlainAlgebra one, PlainAlgebra other, String kept, int[] map) {
        for (char by : kept.toCharArray()) {
            for (int a = 0; a < one.n; a++) {
                for (int b = 0; b < one.n; b++) {
                    if (map[one.make(by, a, b)] != other.make(by, map[a], map[b])) {
                        return false;
                    }
                }
            }
        }
        return true;
    }

    /** Each table of a chain's product in which 0 and the greatest element do what they cannot help. */
    static int count(int n, boolean commutes) {
        PlainAlgebra chain = chain('d', n);
        return count(chain, (n - 2) * (n - 2), commutes);
    }

    private static int count(PlainAlgebra chain, int left, boolean commutes) {
        int inner = chain.n - 2;
        if (left == 0) {
            chain.forget();
            return chain.isRight() && (!commutes || chain.keeps('c')) ? 1 : 0;
        }
        int found = 0;
        for (int product = 0; product < chain.n; product++) {
            chain.times[1 + (left - 1) / inner][1 + (left - 1) % inner] = product;
            found += count(chain, left - 1, commutes);
        }
        return found;
    }
}
