import java.util.HashSet;
import java.util.Random;
import java.util.Set;

/** FAULT of LAWS against a reader that follows every way the grammar leaves open at once. */
public final class GrammarTest {
    private static final Check CHECK = new Check("GrammarTest");
    private static final Random RANDOM = new Random(20261118);

    public static void main(String[] args) {
        int good = 0;
        for (int round = 0; round < 60000; round++) {
            String text = round % 3 == 0 ? signs() : spoilt(Laws.random(RANDOM).text(RANDOM));
            if (text.length() > 240) {
                continue;
            }
            int due = fault(text);
            good += due < 0 ? 1 : 0;
            CHECK.same("fault(1) of '" + text + "'", Check.fault(new WaxReign(), 1, text), due);
        }
        CHECK.isTrue("some are good", good > 5000);
        CHECK.ends();
    }

    private static String signs() {
        String all = "y::;h1[]()!+-*/=<>&|? 9w";
        StringBuilder text = new StringBuilder(RANDOM.nextInt(4) == 0 ? "" : "y:");
        int length = RANDOM.nextInt(14);
        for (int i = 0; i < length; i++) {
            text.append(all.charAt(RANDOM.nextInt(all.length())));
        }
        return text.toString();
    }

    private static String spoilt(String text) {
        String all = "y:;h1[]()!+-*/=<>&|? 9wz";
        StringBuilder spoilt = new StringBuilder(text);
        int times = RANDOM.nextInt(3);
        for (int i = 0; i < times && spoilt.length() > 0; i++) {
            int at = RANDOM.nextInt(spoilt.length());
            char sign = all.charAt(RANDOM.nextInt(all.length()));
            switch (RANDOM.nextInt(3)) {
                case 0:
                    spoilt.setCharAt(at, sign);
                    break;
                case 1:
                    spoilt.deleteCharAt(at);
                    break;
                default:
                    spoilt.insert(at, sign);
                    break;
            }
        }
        return spoilt.toString();
    }

    /** A stack is a text of pairs: a quote and a sign, or a part of the grammar and how deep it lies. */
    private static int fault(String text) {
        Set<String> stacks = new HashSet<>();
        stacks.add("L0");
        for (int i = 0; i < text.length(); i++) {
            Set<String> next = new HashSet<>();
            for (String stack : stacks) {
                follow(stack, text.charAt(i), next);
            }
            if (next.isEmpty()) {
                return i;
            }
            stacks = next;
        }
        for (String stack : stacks) {
            if (canEnd(stack)) {
                return -1;
            }
        }
        return text.length();
    }

    private static boolean canEnd(String stack) {
        for (int i = 0; i < stack.length(); i += 2) {
            if ("ldtsmq".indexOf(stack.charAt(i)) < 0) {
                return false;
            }
        }
        return true;
    }

    private static void follow(String stack, char sign, Set<String> next) {
        if (sign == ' ') {
            next.add(stack.startsWith("q") ? stack.substring(2) : stack);
            return;
        }
        if (stack.isEmpty()) {
            return;
        }
        char part = stack.charAt(0);
        int deep = stack.charAt(1) - '0';
        String rest = stack.substring(2);
        char now = stack.charAt(1);
        char in = (char) (now + 1);
        switch (part) {
            case '\'':
                if (stack.charAt(1) == sign) {
                    next.add(rest);
                }
                break;
            case 'L':
                follow("C0l0" + rest, sign, next);
                break;
            case 'l':
                follow("';L0" + rest, sign, next);
                follow(rest, sign, next);
                break;
            case 'C':
                follow("'y':S0" + rest, sign, next);
                follow("'y':D0'?S0" + rest, sign, next);
                break;
            case 'D':
                follow("T" + now + "d" + now + rest, sign, next);
                break;
            case 'd':
                follow("'|D" + now + rest, sign, next);
                follow(rest, sign, next);
                break;
            case 'T':
                follow("U" + now + "t" + now + rest, sign, next);
                break;
            case 't':
                follow("'&T" + now + rest, sign, next);
                follow(rest, sign, next);
                break;
            case 'U':
                if (deep < 6) {
                    follow("'!U" + in + rest, sign, next);
                    follow("'(D" + in + "')" + rest, sign, next);
                }
                for (char c : "=<>".toCharArray()) {
                    follow("S" + now + "'" + c + "S" + now + rest, sign, next);
                }
                break;
            case 'S':
                follow("M" + now + "s" + now + rest, sign, next);
                break;
            case 's':
                follow("'+S" + now + rest, sign, next);
                follow("'-S" + now + rest, sign, next);
                follow(rest, sign, next);
                break;
            case 'M':
                follow("A" + now + "m" + now + rest, sign, next);
                break;
            case 'm':
                follow("'*M" + now + rest, sign, next);
                follow("'/M" + now + rest, sign, next);
                follow(rest, sign, next);
                break;
            case 'A':
                if ("hwsmdk".indexOf(sign) >= 0) {
                    next.add(rest);
                } else if (sign >= '0' && sign <= '9') {
                    next.add("q3" + rest);
                } else if (sign == '[' && deep < 6) {
                    next.add("S" + in + "']" + rest);
                }
                break;
            default:
                if (deep > 0 && sign >= '0' && sign <= '9') {
                    next.add("q" + (deep - 1) + rest);
                }
                follow(rest, sign, next);
                break;
        }
    }
}
