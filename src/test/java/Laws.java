import java.util.ArrayList;
import java.util.List;
import java.util.Random;

/** A LAW as a tree, made at random, that can be told as a text and weighed without it. */
final class Laws {
    private final List<Node> conditions = new ArrayList<>();
    private final List<Node> sums = new ArrayList<>();

    static Laws random(Random random) {
        Laws laws = new Laws();
        int clauses = 1 + random.nextInt(3);
        for (int i = 0; i < clauses; i++) {
            laws.conditions.add(random.nextInt(3) == 0 ? null : truth(random, '|', 0));
            laws.sums.add(sum(random, '+', 0));
        }
        return laws;
    }

    String text(Random random) {
        StringBuilder text = new StringBuilder();
        for (int i = 0; i < sums.size(); i++) {
            text.append(i > 0 ? ";" : "").append("y:");
            if (conditions.get(i) != null) {
                text.append(conditions.get(i).text()).append('?');
            }
            text.append(sums.get(i).text());
        }
        return random.nextInt(4) > 0 ? text.toString() : blanked(text, random);
    }

    private static String blanked(StringBuilder text, Random random) {
        StringBuilder blanked = new StringBuilder();
        for (int i = 0; i < text.length(); i++) {
            boolean within = i > 0 && Character.isDigit(text.charAt(i)) && Character.isDigit(text.charAt(i - 1));
            if (!within && random.nextInt(6) == 0) {
                blanked.append(' ');
            }
            blanked.append(text.charAt(i));
        }
        return blanked.toString();
    }

    /** h w s m d k. */
    long worth(int... letters) {
        for (int i = 0; i < sums.size(); i++) {
            if (conditions.get(i) == null || conditions.get(i).value(letters) != 0) {
                return sums.get(i).value(letters);
            }
        }
        return 0;
    }

    private static Node truth(Random random, char sign, int within) {
        Node node = sign == '|' ? truth(random, '&', within) : unit(random, within);
        int more = random.nextInt(4) == 0 ? 1 + random.nextInt(2) : 0;
        for (int i = 0; i < more; i++) {
            node = new Node(sign, node, sign == '|' ? truth(random, '&', within) : unit(random, within));
        }
        return node;
    }

    private static Node unit(Random random, int within) {
        int kind = within < 5 ? random.nextInt(5) : 4;
        if (kind == 0) {
            return new Node('!', unit(random, within + 1), null);
        }
        if (kind == 1) {
            return new Node('(', truth(random, '|', within + 1), null);
        }
        return new Node("=<>".charAt(random.nextInt(3)), sum(random, '+', within), sum(random, '+', within));
    }

    private static Node sum(Random random, char sign, int within) {
        String signs = sign == '+' ? "+-" : "*/";
        Node node = sign == '+' ? sum(random, '*', within) : atom(random, within);
        int more = random.nextInt(3) == 0 ? 1 + random.nextInt(2) : 0;
        for (int i = 0; i < more; i++) {
            Node next = sign == '+' ? sum(random, '*', within) : atom(random, within);
            node = new Node(signs.charAt(random.nextInt(2)), node, next);
        }
        return node;
    }

    private static Node atom(Random random, int within) {
        int kind = within < 5 ? random.nextInt(7) : 1 + random.nextInt(6);
        if (kind == 0) {
            return new Node('[', sum(random, '+', within + 1), null);
        }
        if (kind < 4) {
            return new Node('#', random.nextInt(5) == 0 ? random.nextInt(10000) : random.nextInt(40));
        }
        return new Node('a', random.nextInt(6));
    }

    private static final class Node {
        private final char sign;
        private final Node left;
        private final Node right;
        private final int number;

        Node(char sign, Node left, Node right) {
            this.sign = sign;
            this.left = left;
            this.right = right;
            this.number = 0;
        }

        Node(char sign, int number) {
            this.sign = sign;
            this.left = null;
            this.right = null;
            this.number = number;
        }

        String text() {
            switch (sign) {
                case '#':
                    return "" + number;
                case 'a':
                    return "" + "hwsmdk".charAt(number);
                case '!':
                    return "!" + left.text();
                case '(':
                    return "(" + left.text() + ")";
                case '[':
                    return "[" + left.text() + "]";
                default:
                    return left.text() + sign + right.text();
            }
        }

        long value(int... letters) {
            long a = left == null ? 0 : left.value(letters);
            long b = right == null ? 0 : right.value(letters);
            switch (sign) {
                case '#':
                    return number;
                case 'a':
                    return letters[number];
                case '!':
                    return a == 0 ? 1 : 0;
                case '(':
                case '[':
                    return a;
                case '+':
                    return held(a + b);
                case '-':
                    return held(a - b);
                case '*':
                    return held(a * b);
                case '/':
                    return b == 0 ? 0 : a / b;
                case '=':
                    return a == b ? 1 : 0;
                case '<':
                    return a < b ? 1 : 0;
                case '>':
                    return a > b ? 1 : 0;
                case '&':
                    return a * b;
                default:
                    return Math.max(a, b);
            }
        }

        private static long held(long value) {
            return value > 1000000 ? 1000000 : value < -1000000 ? -1000000 : value;
        }
    }
}
