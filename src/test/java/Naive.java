import java.util.ArrayList;
import java.util.HashMap;
import java.util.List;
import java.util.Map;
import java.util.Set;
import java.util.TreeSet;

/**
 * The document said once more, as plainly as Java can: trees of objects, recursion, sets and maps. It has the face
 * of LazyLoom, and the tests of random calls ask that both answer alike.
 */
final class Naive {
    static final int NUM = 0, VAR = 1, GLOBAL = 2, LAM = 3, APP = 4, LET = 5, STRICT = 6, CON = 7, MATCH = 8, IF = 9,
        PRIM = 10, SEQ = 11, RAISE = 12, CATCH = 13, PAR = 14, CENTRE = 15;

    private record Node(int kind, int number, int name, int other, List<Node> parts) {
        Node part(int which) {
            return parts.get(which);
        }

        Node with(List<Node> others) {
            return new Node(kind, number, name, other, others);
        }

        boolean isAtom() {
            return kind <= GLOBAL;
        }

        boolean isValue() {
            return kind == NUM || kind == LAM || kind == CON;
        }

        boolean isVar(int x) {
            return kind == VAR && name == x;
        }

        Set<Integer> bindsIn(int which) {
            Set<Integer> names = new TreeSet<>();
            if (kind == LAM || kind == LET || (kind == STRICT || kind == CATCH || kind == MATCH) && which == 1) {
                names.add(name);
            }
            if (kind == MATCH && which == 1) {
                names.add(other);
            }
            return names;
        }
    }

    private static final class Cell {
        int state;
        Object value;
        Node e;
        Map<Integer, Object> names;
        int centre;
        boolean isNothing;
    }

    private record Fun(Node lam, Map<Integer, Object> names) { }

    private record Data(int tag, List<Object> fields) { }

    private static final class Raised extends RuntimeException {
        final int number;

        Raised(int number) {
            super(null, null, false, false);
            this.number = number;
        }
    }

    private static final class Ended extends RuntimeException {
        final int how;

        Ended(int how) {
            super(null, null, false, false);
            this.how = how;
        }
    }

    private static final class Program {
        final Node[] expressions = new Node[8];
        Cell[] cells = new Cell[8];

        void forget() {
            for (int g = 0; g < 8; g++) {
                cells[g] = cellOf(expressions[g]);
            }
        }
    }

    private static final Object ABSENT = new Object();

    private final List<Node> told = new ArrayList<>();
    private final List<Long> sizes = new ArrayList<>();
    private final Program now = new Program();
    private Program begun = null;
    private final List<int[]> rules = new ArrayList<>();

    private int value;
    private final int[] counts = new int[10];

    private Program program;
    private boolean isShared;
    private boolean isSpark;
    private int limit;
    private int interrupt;
    private int steps;
    private final List<Cell> sparks = new ArrayList<>();

    Naive() {
        now.forget();
    }

    // ---- nodes

    private int tell(int kind, int number, int name, int other, int... parts) {
        if (told.size() == 200) {
            throw new IllegalStateException();
        }
        List<Node> nodes = new ArrayList<>();
        long size = 1;
        for (int part : parts) {
            nodes.add(told.get(part));
            size = Math.min(1000, size + sizes.get(part));
        }
        told.add(new Node(kind, number, name, other, nodes));
        sizes.add(size);
        return told.size() - 1;
    }

    private void range(int x, int from, int to) {
        if (x < from || x > to) {
            throw new IllegalArgumentException();
        }
    }

    private void there(int... nodes) {
        for (int node : nodes) {
            if (node < 0 || node >= told.size()) {
                throw new IndexOutOfBoundsException();
            }
        }
    }

    private void atom(int node) {
        if (!told.get(node).isAtom()) {
            throw new IllegalArgumentException();
        }
    }

    int num(int n) {
        return tell(NUM, n, 0, 0);
    }

    int var(int x) {
        range(x, 0, 15);
        return tell(VAR, 0, x, 0);
    }

    int global(int g) {
        range(g, 0, 7);
        return tell(GLOBAL, g, 0, 0);
    }

    int lam(int x, int b) {
        there(b);
        range(x, 0, 15);
        return tell(LAM, 0, x, 0, b);
    }

    int app(int f, int a) {
        there(f, a);
        atom(a);
        return tell(APP, 0, 0, 0, f, a);
    }

    int let(int x, int e, int b) {
        there(e, b);
        range(x, 0, 15);
        return tell(LET, 0, x, 0, e, b);
    }

    int con(int tag, int first, int second) {
        if (first != -1) {
            there(first);
        }
        if (second != -1) {
            there(second);
        }
        range(tag, 0, 3);
        if (first == -1) {
            if (second != -1) {
                throw new IllegalArgumentException();
            }
            return tell(CON, tag, 0, 0);
        }
        atom(first);
        if (second == -1) {
            return tell(CON, tag, 0, 0, first);
        }
        atom(second);
        return tell(CON, tag, 0, 0, first, second);
    }

    int match(int e, int tag, int x, int y, int b, int c) {
        there(e, b, c);
        range(tag, 0, 3);
        range(x, 0, 15);
        range(y, 0, 15);
        return tell(MATCH, tag, x, y, e, b, c);
    }

    int choose(int e, int b, int c) {
        there(e, b, c);
        return tell(IF, 0, 0, 0, e, b, c);
    }

    int prim(int o, int a, int b) {
        there(a, b);
        range(o, 0, 4);
        return tell(PRIM, o, 0, 0, a, b);
    }

    int seq(int a, int b) {
        there(a, b);
        return tell(SEQ, 0, 0, 0, a, b);
    }

    int raise(int a) {
        there(a);
        return tell(RAISE, 0, 0, 0, a);
    }

    int hold(int a, int x, int b) {
        there(a, b);
        range(x, 0, 15);
        return tell(CATCH, 0, x, 0, a, b);
    }

    int par(int x, int b) {
        there(b);
        range(x, 0, 15);
        return tell(PAR, 0, x, 0, b);
    }

    int centre(int c, int b) {
        there(b);
        range(c, 0, 3);
        return tell(CENTRE, c, 0, 0, b);
    }

    // ---- programs

    int define(int global, int node) {
        there(node);
        range(global, 0, 7);
        if (sizes.get(node) > 80 || !free(told.get(node)).isEmpty()) {
            throw new IllegalStateException();
        }
        now.expressions[global] = told.get(node);
        now.forget();
        return sizeOf(told.get(node));
    }

    int rule(int f, int g, int h) {
        range(f, 0, 7);
        range(g, 0, 7);
        range(h, 0, 7);
        if (rules.size() == 8) {
            throw new IllegalStateException();
        }
        rules.add(new int[] {f, g, h});
        return rules.size();
    }

    int begin() {
        begun = new Program();
        int many = 0;
        for (int g = 0; g < 8; g++) {
            begun.expressions[g] = now.expressions[g];
            many += now.expressions[g] == null ? 0 : 1;
        }
        begun.forget();
        return many;
    }

    int pass(int pass, int global) {
        range(pass, 0, 8);
        range(global, 0, 7);
        if (now.expressions[global] == null) {
            throw new IllegalStateException();
        }
        int[] written = {0};
        Node behind = go(now.expressions[global], pass, demands(), written);
        if (written[0] == 0) {
            return 0;
        }
        if (sizeOf(behind) > 80) {
            return -1;
        }
        now.expressions[global] = behind;
        now.forget();
        return written[0];
    }

    private Node go(Node node, int pass, List<Set<Integer>> demands, int[] written) {
        List<Node> parts = new ArrayList<>();
        for (Node part : node.parts()) {
            parts.add(go(part, pass, demands, written));
        }
        Node ahead = node.with(parts);
        Node behind = rewritten(ahead, pass, demands);
        if (behind == null) {
            return ahead;
        }
        written[0]++;
        return behind;
    }

    /** The node anew, or null where the pass's rule does not fit. */
    private Node rewritten(Node n, int pass, List<Set<Integer>> demands) {
        switch (pass) {
            case 0:
                return fold(n);
            case 1:
                boolean drops = n.kind() == LET || n.kind() == STRICT && n.part(0).isValue();
                return drops && !free(n.part(1)).contains(n.name()) ? n.part(1) : null;
            case 2:
                if (n.kind() != APP || n.part(0).kind() != LAM) {
                    return null;
                }
                return put(n.part(1), n.part(0).name(), n.part(0).part(0));
            case 3:
                return known(n);
            case 4:
                if (n.kind() != LET || free(n.part(0)).contains(n.name())) {
                    return null;
                }
                int[] times = new int[2];
                times(n.part(1), n.name(), false, false, times);
                return times[0] == 1 && times[1] == 0 ? put(n.part(0), n.name(), n.part(1)) : null;
            case 5:
                if (n.kind() != LET || free(n.part(0)).contains(n.name())
                    || !needs(n.part(1), demands).contains(n.name())) {
                    return null;
                }
                return new Node(STRICT, 0, n.name(), 0, n.parts());
            case 6:
                return inline(n);
            case 7:
                return floatIn(n);
            default:
                return fuse(n);
        }
    }

    private Node fold(Node n) {
        if (n.kind() == PRIM && n.part(0).kind() == NUM && n.part(1).kind() == NUM) {
            int a = n.part(0).number();
            int b = n.part(1).number();
            return n.number() == 4 && b == 0 ? null : new Node(NUM, operated(n.number(), a, b), 0, 0, List.of());
        }
        if (n.kind() == IF && n.part(0).kind() == NUM) {
            return n.part(0).number() != 0 ? n.part(1) : n.part(2);
        }
        return n.kind() == SEQ && n.part(0).isValue() ? n.part(1) : null;
    }

    private Node known(Node n) {
        if (n.kind() != MATCH || n.part(0).kind() != CON) {
            return null;
        }
        if (n.number() != n.part(0).number()) {
            return n.part(2);
        }
        List<Node> fields = n.part(0).parts();
        if (n.name() == n.other()) {
            return null;
        }
        for (Node field : fields) {
            if (field.isVar(n.name())) {
                return null;
            }
        }
        Node b = n.part(1);
        if (fields.size() < 2 && free(b).contains(n.other()) || fields.size() < 1 && free(b).contains(n.name())) {
            return null;
        }
        if (fields.size() > 1) {
            b = put(fields.get(1), n.other(), b);
        }
        if (b != null && fields.size() > 0) {
            b = put(fields.get(0), n.name(), b);
        }
        return b;
    }

    private Node inline(Node n) {
        if (n.kind() != APP || n.part(0).kind() != GLOBAL) {
            return null;
        }
        int g = n.part(0).number();
        Node e = now.expressions[g];
        if (e == null || e.kind() != LAM || sizeOf(e) > 12 || reached(e, new TreeSet<>()).contains(g)) {
            return null;
        }
        return n.with(List.of(e, n.part(1)));
    }

    private Set<Integer> reached(Node n, Set<Integer> seen) {
        if (n.kind() == GLOBAL && seen.add(n.number()) && now.expressions[n.number()] != null) {
            reached(now.expressions[n.number()], seen);
        }
        for (Node part : n.parts()) {
            reached(part, seen);
        }
        return seen;
    }

    private Node floatIn(Node n) {
        if (n.kind() != LET || n.part(1).kind() != IF) {
            return null;
        }
        Node choice = n.part(1);
        boolean inA = free(choice.part(0)).contains(n.name());
        boolean inB = free(choice.part(1)).contains(n.name());
        boolean inC = free(choice.part(2)).contains(n.name());
        if (inA || inB == inC) {
            return null;
        }
        Node b = inB ? n.with(List.of(n.part(0), choice.part(1))) : choice.part(1);
        Node c = inC ? n.with(List.of(n.part(0), choice.part(2))) : choice.part(2);
        return choice.with(List.of(choice.part(0), b, c));
    }

    private Node fuse(Node n) {
        if (n.kind() != LET || n.part(0).kind() != APP || n.part(1).kind() != APP) {
            return null;
        }
        Node g = n.part(0).part(0);
        Node a = n.part(0).part(1);
        Node f = n.part(1).part(0);
        if (g.kind() != GLOBAL || f.kind() != GLOBAL || a.isVar(n.name()) || !n.part(1).part(1).isVar(n.name())) {
            return null;
        }
        for (int[] rule : rules) {
            if (rule[0] == f.number() && rule[1] == g.number()) {
                return new Node(APP, 0, 0, 0, List.of(new Node(GLOBAL, rule[2], 0, 0, List.of()), a));
            }
        }
        return null;
    }

    /** times[0] VARs x are free, of which times[1] stand where ONCE does not put anything. */
    private void times(Node n, int x, boolean isShut, boolean isField, int[] times) {
        if (n.isVar(x)) {
            times[0]++;
            times[1] += isShut || isField ? 1 : 0;
        }
        for (int i = 0; i < n.parts().size(); i++) {
            if (!n.bindsIn(i).contains(x)) {
                boolean field = n.kind() == CON || n.kind() == APP && i == 1;
                times(n.part(i), x, isShut || n.kind() == LAM || n.kind() == CENTRE, field, times);
            }
        }
    }

    /** b with a in place of x, or null if that can't be done. */
    private Node put(Node a, int x, Node b) {
        return canPut(x, b, free(a)) ? putIn(a, x, b) : null;
    }

    private boolean canPut(int x, Node b, Set<Integer> names) {
        if (b.kind() == PAR && b.name() == x) {
            return false;
        }
        for (int i = 0; i < b.parts().size(); i++) {
            Set<Integer> bound = b.bindsIn(i);
            if (bound.contains(x)) {
                continue;
            }
            if (!canPut(x, b.part(i), names)) {
                return false;
            }
            Set<Integer> caught = new TreeSet<>(bound);
            caught.retainAll(names);
            if (!caught.isEmpty() && varIsFree(b.part(i), x)) {
                return false;
            }
        }
        return true;
    }

    private boolean varIsFree(Node n, int x) {
        int[] times = new int[2];
        times(n, x, false, false, times);
        return times[0] > 0;
    }

    private Node putIn(Node a, int x, Node b) {
        if (b.isVar(x)) {
            return a;
        }
        List<Node> parts = new ArrayList<>();
        for (int i = 0; i < b.parts().size(); i++) {
            parts.add(b.bindsIn(i).contains(x) ? b.part(i) : putIn(a, x, b.part(i)));
        }
        return b.with(parts);
    }

    private static Set<Integer> free(Node n) {
        Set<Integer> names = new TreeSet<>();
        if (n.kind() == VAR || n.kind() == PAR) {
            names.add(n.name());
        }
        for (int i = 0; i < n.parts().size(); i++) {
            Set<Integer> inside = free(n.part(i));
            inside.removeAll(n.bindsIn(i));
            names.addAll(inside);
        }
        return names;
    }

    private static int sizeOf(Node n) {
        int size = 1;
        for (Node part : n.parts()) {
            size += sizeOf(part);
        }
        return size;
    }

    private static int operated(int o, int a, int b) {
        return o == 0 ? a + b : o == 1 ? a - b : o == 2 ? a * b : o == 3 ? (a < b ? 1 : 0) : a / b;
    }

    // ---- demand

    private static List<Integer> firstLams(Node e) {
        List<Integer> names = new ArrayList<>();
        for (Node n = e; n != null && n.kind() == LAM; n = n.part(0)) {
            names.add(n.name());
        }
        return names;
    }

    private static boolean isPlaceNeeded(List<Integer> lams, int place, Set<Integer> names) {
        return names.contains(lams.get(place)) && lams.lastIndexOf(lams.get(place)) == place;
    }

    private static Set<Integer> all() {
        Set<Integer> names = new TreeSet<>();
        for (int x = 0; x < 16; x++) {
            names.add(x);
        }
        return names;
    }

    private List<Set<Integer>> demands() {
        List<Set<Integer>> table = new ArrayList<>();
        for (int g = 0; g < 8; g++) {
            table.add(all());
        }
        while (true) {
            List<Set<Integer>> next = new ArrayList<>();
            for (int g = 0; g < 8; g++) {
                Node b = now.expressions[g];
                while (b != null && b.kind() == LAM) {
                    b = b.part(0);
                }
                next.add(b == null ? new TreeSet<>() : needs(b, table));
            }
            if (next.equals(table)) {
                return table;
            }
            table = next;
        }
    }

    private Set<Integer> needs(Node n, List<Set<Integer>> table) {
        Set<Integer> names = new TreeSet<>();
        switch (n.kind()) {
            case VAR:
                names.add(n.name());
                return names;
            case RAISE:
                return all();
            case APP:
                return needsOfCall(n, table);
            case LET:
                names.addAll(needs(n.part(1), table));
                if (names.contains(n.name())) {
                    names.addAll(needs(n.part(0), table));
                }
                names.remove(n.name());
                return names;
            case STRICT:
                names.addAll(needs(n.part(1), table));
                names.remove(n.name());
                names.addAll(needs(n.part(0), table));
                return names;
            case MATCH:
                names.addAll(needs(n.part(1), table));
                names.remove(n.name());
                names.remove(n.other());
                names.retainAll(needs(n.part(2), table));
                names.addAll(needs(n.part(0), table));
                return names;
            case IF:
                names.addAll(needs(n.part(1), table));
                names.retainAll(needs(n.part(2), table));
                names.addAll(needs(n.part(0), table));
                return names;
            case PRIM:
            case SEQ:
                names.addAll(needs(n.part(0), table));
                names.addAll(needs(n.part(1), table));
                return names;
            case PAR:
            case CENTRE:
                return needs(n.part(0), table);
            default:
                return names;
        }
    }

    private Set<Integer> needsOfCall(Node n, List<Set<Integer>> table) {
        Set<Integer> names = new TreeSet<>(needs(n.part(0), table));
        List<Node> atoms = new ArrayList<>();
        Node head = n;
        while (head.kind() == APP) {
            atoms.add(0, head.part(1));
            head = head.part(0);
        }
        if (head.kind() == GLOBAL) {
            List<Integer> lams = firstLams(now.expressions[head.number()]);
            if (lams.size() <= atoms.size()) {
                for (int place = 0; place < lams.size(); place++) {
                    if (atoms.get(place).kind() == VAR && isPlaceNeeded(lams, place, table.get(head.number()))) {
                        names.add(atoms.get(place).name());
                    }
                }
            }
        }
        return names;
    }

    // ---- running

    private static Cell cellOf(Node e) {
        Cell cell = new Cell();
        cell.e = e;
        cell.names = new HashMap<>();
        cell.isNothing = e == null;
        return cell;
    }

    private Program programOf(boolean isBegun) {
        if (isBegun && begun == null) {
            throw new IllegalStateException();
        }
        return isBegun ? begun : now;
    }

    int run(int global, int many, int a, int b, int interrupt, boolean isBegun) {
        range(global, 0, 7);
        range(many, 0, 2);
        range(interrupt, 0, 600);
        return launch(programOf(isBegun), global, many, a, b, interrupt, true);
    }

    int plainly(int global, int many, int a, int b, boolean isBegun) {
        range(global, 0, 7);
        range(many, 0, 2);
        return launch(programOf(isBegun), global, many, a, b, 0, false);
    }

    private int launch(Program program, int global, int many, int a, int b, int interrupt, boolean isShared) {
        this.program = program;
        this.interrupt = interrupt;
        this.isShared = isShared;
        isSpark = false;
        limit = 600;
        steps = 0;
        sparks.clear();
        java.util.Arrays.fill(counts, 0);
        value = 0;
        Cell[] kept = program.cells;
        if (!isShared) {
            program.cells = new Cell[8];
            program.forget();
        }
        Node root = new Node(GLOBAL, global, 0, 0, List.of());
        if (many > 0) {
            root = new Node(APP, 0, 0, 0, List.of(root, new Node(NUM, a, 0, 0, List.of())));
        }
        if (many > 1) {
            root = new Node(APP, 0, 0, 0, List.of(root, new Node(NUM, b, 0, 0, List.of())));
        }
        int how = ends(root);
        if (how <= 2) {
            lookAtSparks();
        }
        program.cells = kept;
        return how;
    }

    private int ends(Node root) {
        try {
            Object found = find(root, new HashMap<>(), 0);
            if (found instanceof Integer number) {
                value = number;
                return 0;
            }
            if (found instanceof Data data) {
                value = 10 * data.tag() + data.fields().size();
                return 2;
            }
            return 1;
        } catch (Raised e) {
            value = e.number;
            return 3;
        } catch (Ended e) {
            return e.how;
        }
    }

    private void lookAtSparks() {
        isSpark = true;
        limit = 200;
        for (Cell cell : new ArrayList<>(sparks)) {
            if (!cell.isNothing && (cell.state == 2 || cell.names.isEmpty() && cell.e.isValue())) {
                counts[4]++;
                continue;
            }
            counts[5]++;
            steps = 0;
            try {
                force(cell);
            } catch (Raised | Ended e) {
                continue;
            }
        }
    }

    private Object force(Cell cell) {
        if (cell.state == 2) {
            return cell.value;
        }
        if (cell.isNothing) {
            throw new Ended(5);
        }
        if (cell.names.isEmpty() && cell.e.isValue()) {
            return valueOf(cell.e, cell.names);
        }
        if (!isShared) {
            return find(cell.e, cell.names, cell.centre);
        }
        if (cell.state == 1) {
            throw new Ended(4);
        }
        cell.state = 1;
        Object found;
        try {
            found = find(cell.e, cell.names, cell.centre);
        } catch (Raised | Ended e) {
            cell.state = 0;
            throw e;
        }
        cell.state = 2;
        cell.value = found;
        counts[2]++;
        return found;
    }

    private Object valueOf(Node n, Map<Integer, Object> names) {
        if (n.kind() == NUM) {
            return n.number();
        }
        if (n.kind() == LAM) {
            return new Fun(n, names);
        }
        List<Object> fields = new ArrayList<>();
        for (Node part : n.parts()) {
            fields.add(atomOf(part, names));
        }
        return new Data(n.number(), fields);
    }

    private Object atomOf(Node atom, Map<Integer, Object> names) {
        if (atom.kind() == NUM) {
            return atom.number();
        }
        Object thing = atom.kind() == GLOBAL ? program.cells[atom.number()] : names.get(atom.name());
        if (thing == ABSENT || thing == null) {
            throw new Ended(5);
        }
        return thing;
    }

    private Map<Integer, Object> bind(Map<Integer, Object> names, int x, Object thing) {
        Map<Integer, Object> more = new HashMap<>(names);
        more.put(x, thing);
        return more;
    }

    private int number(Object thing) {
        if (thing instanceof Integer number) {
            return number;
        }
        throw new Ended(5);
    }

    private Object find(Node n, Map<Integer, Object> names, int centre) {
        if (steps == limit) {
            throw new Ended(6);
        }
        if (!isSpark && steps + 1 == interrupt) {
            throw new Ended(7);
        }
        steps++;
        if (isSpark) {
            counts[3]++;
        } else {
            counts[0]++;
            counts[6 + centre]++;
        }
        switch (n.kind()) {
            case NUM:
            case LAM:
            case CON:
                return valueOf(n, names);
            case VAR: {
                Object thing = atomOf(n, names);
                return thing instanceof Cell cell ? force(cell) : thing;
            }
            case GLOBAL:
                return force(program.cells[n.number()]);
            case APP: {
                Object f = find(n.part(0), names, centre);
                if (!(f instanceof Fun fun)) {
                    throw new Ended(5);
                }
                Object a = atomOf(n.part(1), names);
                return find(fun.lam().part(0), bind(fun.names(), fun.lam().name(), a), centre);
            }
            case LET: {
                Cell cell = new Cell();
                counts[1]++;
                Map<Integer, Object> more = bind(names, n.name(), cell);
                cell.e = n.part(0);
                cell.names = more;
                cell.centre = centre;
                if (cell.e.isValue()) {
                    cell.value = valueOf(cell.e, more);
                    cell.state = 2;
                }
                return find(n.part(1), more, centre);
            }
            case STRICT: {
                Object e = find(n.part(0), names, centre);
                return find(n.part(1), bind(names, n.name(), e), centre);
            }
            case MATCH: {
                if (!(find(n.part(0), names, centre) instanceof Data data)) {
                    throw new Ended(5);
                }
                if (data.tag() != n.number()) {
                    return find(n.part(2), names, centre);
                }
                List<Object> fields = data.fields();
                Map<Integer, Object> more = bind(names, n.name(), fields.size() > 0 ? fields.get(0) : ABSENT);
                more = bind(more, n.other(), fields.size() > 1 ? fields.get(1) : ABSENT);
                return find(n.part(1), more, centre);
            }
            case IF:
                return find(number(find(n.part(0), names, centre)) != 0 ? n.part(1) : n.part(2), names, centre);
            case PRIM: {
                int a = number(find(n.part(0), names, centre));
                int b = number(find(n.part(1), names, centre));
                if (n.number() == 4 && b == 0) {
                    throw new Raised(0);
                }
                return operated(n.number(), a, b);
            }
            case SEQ:
                find(n.part(0), names, centre);
                return find(n.part(1), names, centre);
            case RAISE:
                throw new Raised(number(find(n.part(0), names, centre)));
            case CATCH: {
                int raised;
                try {
                    return find(n.part(0), names, centre);
                } catch (Raised e) {
                    raised = e.number;
                }
                return find(n.part(1), bind(names, n.name(), raised), centre);
            }
            case PAR: {
                Object thing = names.get(n.name());
                if (thing == ABSENT || thing == null) {
                    throw new Ended(5);
                }
                if (thing instanceof Cell cell && isShared && !isSpark && sparks.size() < 4) {
                    sparks.add(cell);
                }
                return find(n.part(0), names, centre);
            }
            default:
                return find(n.part(0), names, n.number());
        }
    }

    int value() {
        return value;
    }

    int count(int what) {
        range(what, 0, 9);
        return counts[what];
    }

    // ---- questions

    int needed(int global, int place) {
        range(global, 0, 7);
        if (place < 0) {
            throw new IllegalArgumentException();
        }
        List<Integer> lams = firstLams(now.expressions[global]);
        if (place >= lams.size()) {
            return -1;
        }
        return isPlaceNeeded(lams, place, demands().get(global)) ? 1 : 0;
    }

    int size(int global, boolean isBegun) {
        range(global, 0, 7);
        Node e = programOf(isBegun).expressions[global];
        return e == null ? 0 : sizeOf(e);
    }

    int node(int global, int place, int what) {
        range(global, 0, 7);
        List<Node> places = new ArrayList<>();
        if (now.expressions[global] != null) {
            places(now.expressions[global], places);
        }
        if (place < 0 || place >= places.size()) {
            throw new IndexOutOfBoundsException();
        }
        range(what, 0, 3);
        Node n = places.get(place);
        return what == 0 ? n.kind() : what == 1 ? n.number() : what == 2 ? n.name() : n.other();
    }

    private void places(Node n, List<Node> places) {
        places.add(n);
        for (Node part : n.parts()) {
            places(part, places);
        }
    }
}
