import java.util.ArrayList;
import java.util.Arrays;
import java.util.List;

/**
 * An expression as a text, such as (lam x0 (+ x0 (app g1 2))), which can be told to a LazyLoom and looked for in one.
 * 5 is a NUM, x5 a VAR, g5 a GLOBAL; the others are (lam x b) (app f a) (let x e b) (strict x e b) (con t ..)
 * (match e t x y b c) (if e b c) (+ a b) (- a b) (* a b) (< a b) (/ a b) (seq a b) (raise a) (catch a x b) (par x b)
 * (centre c b).
 */
final class Words {
    private static final List<String> HEADS = Arrays.asList("", "", "", "lam", "app", "let", "strict", "con", "match",
        "if", "prim", "seq", "raise", "catch", "par", "centre");
    private static final String OPERATIONS = "+-*</";

    private int kind;
    private int number;
    private int name;
    private int other;
    private final List<Words> parts = new ArrayList<>();

    private Words() { }

    static Words of(String text) {
        List<String> words = new ArrayList<>(Arrays.asList(
            text.replace("(", " ( ").replace(")", " ) ").trim().split("\\s+")));
        return read(words);
    }

    private static int numberBehind(String word) {
        return Integer.parseInt(word.substring(1));
    }

    private static Words read(List<String> words) {
        Words made = new Words();
        String word = words.remove(0);
        if (!word.equals("(")) {
            char sign = word.charAt(0);
            made.kind = sign == 'x' ? 1 : sign == 'g' ? 2 : 0;
            made.name = sign == 'x' ? numberBehind(word) : 0;
            made.number = sign == 'x' ? 0 : sign == 'g' ? numberBehind(word) : Integer.parseInt(word);
            return made;
        }
        String head = words.remove(0);
        if (head.length() == 1 && OPERATIONS.contains(head)) {
            made.kind = 10;
            made.number = OPERATIONS.indexOf(head);
        } else {
            made.kind = HEADS.indexOf(head);
        }
        made.readRest(words);
        words.remove(0);
        return made;
    }

    private void readRest(List<String> words) {
        if (kind == 3 || kind == 5 || kind == 6 || kind == 14) {
            name = numberBehind(words.remove(0));
        }
        if (kind == 7 || kind == 15) {
            number = Integer.parseInt(words.remove(0));
        }
        if (kind == 8 || kind == 13) {
            parts.add(read(words));
        }
        if (kind == 8) {
            number = Integer.parseInt(words.remove(0));
            name = numberBehind(words.remove(0));
            other = numberBehind(words.remove(0));
        }
        if (kind == 13) {
            name = numberBehind(words.remove(0));
        }
        while (!words.get(0).equals(")")) {
            parts.add(read(words));
        }
    }

    private int part(Nodes nodes, int which) {
        return which < parts.size() ? parts.get(which).tell(nodes) : LazyLoom.NONE;
    }

    /** Tells it, and returns its number. */
    int tell(Nodes nodes) {
        int a = part(nodes, 0);
        int b = part(nodes, 1);
        int c = part(nodes, 2);
        switch (kind) {
            case 0: return nodes.num(number);
            case 1: return nodes.var(name);
            case 2: return nodes.global(number);
            case 3: return nodes.lam(name, a);
            case 4: return nodes.app(a, b);
            case 5: return nodes.let(name, a, b);
            case 7: return nodes.con(number, a, b);
            case 8: return nodes.match(a, number, name, other, b, c);
            case 9: return nodes.choose(a, b, c);
            case 10: return nodes.prim(number, a, b);
            case 11: return nodes.seq(a, b);
            case 12: return nodes.raise(a);
            case 13: return nodes.hold(a, name, b);
            case 14: return nodes.par(name, a);
            case 15: return nodes.centre(number, a);
            default: throw new IllegalStateException("passes alone make a STRICT");
        }
    }

    int tell(LazyLoom loom) {
        return tell(new Nodes.Of(loom));
    }

    static int define(LazyLoom loom, int global, String text) {
        return loom.define(global, of(text).tell(loom));
    }

    static int define(Pair pair, int global, String text) {
        return pair.define(global, of(text).tell(pair));
    }

    /** The nodes in the order of their places, as node() tells them. */
    String told() {
        StringBuilder told = new StringBuilder();
        told(told);
        return told.toString();
    }

    private void told(StringBuilder told) {
        told.append(kind).append(' ').append(number).append(' ').append(name).append(' ').append(other).append("; ");
        for (Words part : parts) {
            part.told(told);
        }
    }

    static String told(LazyLoom loom, int global) {
        StringBuilder told = new StringBuilder();
        int size = loom.size(global, false);
        for (int place = 0; place < size; place++) {
            told.append(loom.node(global, place, 0)).append(' ').append(loom.node(global, place, 1)).append(' ')
                .append(loom.node(global, place, 2)).append(' ').append(loom.node(global, place, 3)).append("; ");
        }
        return told.toString();
    }

    /** Asks that a global of now is the expression of a text. */
    static void due(String what, LazyLoom loom, int global, String text) {
        String want = of(text).told();
        String got = told(loom, global);
        if (got.equals(want)) {
            Check.due(what, 0, 0);
        } else {
            Check.fail(what + ": is " + got + " due is " + want + " " + text);
        }
    }
}
