import java.util.ArrayList;
import java.util.List;
import java.util.Random;

/** Makes machines and programs, right ones and damaged ones, from a seed. */
final class Texts {
    private static final String[] KINDS = {"stm", "reg", "con", "addr", "v", "x", "cond", "longword"};
    private final Random random;
    private boolean heavy;

    Texts(long seed) {
        random = new Random(seed);
    }

    int below(int bound) {
        return random.nextInt(bound);
    }

    int anyInt() {
        return random.nextInt();
    }

    private String op(int parts) {
        List<String> ops = parts == 2 ? Model.TWO : Model.ONE;
        return ops.get(below(ops.size()));
    }

    private String number() {
        switch (below(8)) {
            case 0: return String.valueOf(random.nextInt());
            case 1: return "-" + below(300);
            case 2: return "00" + below(40);
            default: return String.valueOf(below(5));
        }
    }

    private String gap() {
        switch (below(12)) {
            case 0: return " ; a remark, (#:=\n ";
            case 1: return "\t\r\n";
            case 2: return "  ";
            default: return "";
        }
    }

    String machine() {
        int kinds = 2 + below(KINDS.length - 1);
        List<String> rules = new ArrayList<>();
        int style = below(4);
        heavy = below(3) == 0;
        if (style != 0) {
            rules.add("stm = set(reg) " + price());
            rules.add("stm = store(reg, reg) " + price());
            rules.add("stm = ret(reg) " + price());
            rules.add("reg = var " + price());
            rules.add("reg = # " + price());
            for (String op : Model.TWO) {
                rules.add("reg = " + op + "(reg, reg) " + price());
            }
            for (String op : Model.ONE) {
                rules.add("reg = " + op + "(reg) " + price());
            }
        }
        int more = below(25);
        for (int i = 0; i < more; i++) {
            rules.add(KINDS[below(kinds)] + " = " + pat(1 + below(3), kinds, below(3) == 0) + " " + price());
        }
        for (int k = style == 0 ? 0 : 2; k < kinds; k++) {
            rules.add(KINDS[k] + " = " + pat(below(2), kinds, false) + gap() + " " + price());
        }
        for (int i = rules.size() - 1; i > 1; i--) {
            int j = 1 + below(i);
            String moved = rules.get(i);
            rules.set(i, rules.get(j));
            rules.set(j, moved);
        }
        return String.join(gap() + "\n", rules);
    }

    private int price() {
        if (heavy) {
            return new int[] {0, 1, 499, 999, 1000}[below(5)];
        }
        switch (below(6)) {
            case 0: return 0;
            case 1: return below(1001);
            default: return below(4);
        }
    }

    private String pat(int depth, int kinds, boolean top) {
        if (top) {
            switch (below(3)) {
                case 0: return "set(" + pat(depth - 1, kinds, false) + ")";
                case 1: return "store(" + pat(depth - 1, kinds, false) + "," + pat(depth - 1, kinds, false) + ")";
                default: return "ret(" + pat(depth - 1, kinds, false) + ")";
            }
        }
        if (depth <= 0 || below(4) == 0) {
            switch (below(6)) {
                case 0: return "var";
                case 1: return "#" + gap() + "(" + number() + ")";
                case 2: return "#(" + -below(9) + ":" + below(9) + ")";
                case 3: return "#";
                default: return KINDS[below(kinds)];
            }
        }
        if (below(3) == 0) {
            return op(1) + "(" + pat(depth - 1, kinds, false) + ")";
        }
        return op(2) + gap() + "(" + pat(depth - 1, kinds, false) + "," + pat(depth - 1, kinds, false) + ")";
    }

    String program() {
        StringBuilder text = new StringBuilder();
        int trees = 1 + below(8);
        int deep = 1 + below(6);
        for (int t = 0; t < trees; t++) {
            int which = below(t == trees - 1 ? 8 : 7);
            text.append(gap());
            if (which < 4) {
                text.append("set v" + below(16) + gap() + "(" + expression(deep) + ")");
            } else if (which < 6) {
                text.append("store(" + expression(deep) + gap() + "," + expression(deep) + ")");
            } else {
                text.append("ret (" + expression(deep) + ")\n");
            }
        }
        return text.toString();
    }

    private String expression(int depth) {
        if (depth <= 0 || below(5) == 0) {
            return below(2) == 0 ? number() : "v" + (below(9) == 0 ? "0" : "") + below(4);
        }
        if (below(4) == 0) {
            return op(1) + "(" + expression(depth - 1) + ")";
        }
        return op(2) + "(" + expression(depth - 1) + "," + gap() + expression(depth - 1) + ")";
    }

    /** A few bytes put in, taken out or changed. */
    String damaged(String text) {
        StringBuilder s = new StringBuilder(text);
        int times = 1 + below(2);
        for (int i = 0; i < times && s.length() > 0; i++) {
            int where = below(s.length());
            switch (below(5)) {
                case 0: s.deleteCharAt(where); break;
                case 1: s.insert(where, piece()); break;
                case 2: s.setCharAt(where, (char) below(256)); break;
                case 3: s.setLength(where); break;
                default: s.replace(where, where + 1, piece());
            }
        }
        return s.toString();
    }

    private String piece() {
        String[] pieces = {"(", ")", ",", "=", "#", ":", "v", "v15", "v16", "v007", "2147483648", "-2147483648", "-",
            "1001", "-1", "var", "set", "set v1(2)", "neg(", "kind", "ninewords", "a", "0", ";", " ", "#(3:2)", "1"};
        return pieces[below(pieces.length)];
    }
}
