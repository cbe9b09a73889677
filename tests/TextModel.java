import java.util.ArrayList;
import java.util.HashSet;
import java.util.List;
import java.util.Set;

/**
 * TEXTS and FAULTS written once more: all TOKENS are cut first, then each is looked at by what may stand
 * there. TextModelTest holds the class against it.
 */
final class TextModel {
    private static final class Token {
        final String signs;
        final int place;

        Token(String signs, int place) {
            this.signs = signs;
            this.place = place;
        }
    }

    /** What may stand next. */
    private enum Stand { C, FACTS, SIGN_SO, SO, SIGN_PRICE, PRICE, SIGN_LAW, A, SIGN_B, B, SIGN_RULE, SIGN_PERSON, NEXT }

    final List<String> rules = new ArrayList<>();
    final StringBuilder people = new StringBuilder();
    int fault;
    int place;
    int facts;
    int so;
    int price;
    private final Set<String> told = new HashSet<>();
    private Stand due = Stand.C;
    private String sort;
    private int a;

    TextModel(String text) {
        for (Token token : cut(text)) {
            fault = faultOf(token.signs);
            if (fault != 0) {
                place = token.place;
                return;
            }
        }
        if (due != Stand.NEXT || people.length() == 0) {
            fault = 1;
            place = text.length();
        }
    }

    private static List<Token> cut(String text) {
        List<Token> tokens = new ArrayList<>();
        int i = 0;
        while (i < text.length()) {
            int end = i + 1;
            while (Character.isDigit(text.charAt(i)) && end < text.length() && Character.isDigit(text.charAt(end))) {
                end++;
            }
            tokens.add(new Token(text.substring(i, end), i));
            i = end;
        }
        return tokens;
    }

    private int faultOf(String token) {
        switch (due) {
            case C: return sign(token, "c", Stand.FACTS);
            case SIGN_SO: return sign(token, ",", Stand.SO);
            case SIGN_PRICE: return sign(token, ",", Stand.PRICE);
            case SIGN_B: return sign(token, ",", Stand.B);
            case SIGN_LAW: case SIGN_RULE: case SIGN_PERSON: return sign(token, ";", Stand.NEXT);
            case NEXT: return faultOfNext(token);
            default: return token.matches("[0-9]{1,2}") ? faultOfNumber(Integer.parseInt(token)) : 1;
        }
    }

    private int sign(String token, String wanted, Stand next) {
        due = next;
        return token.equals(wanted) ? 0 : 1;
    }

    private int faultOfNext(String token) {
        if (token.matches("[mx]") && people.length() == 0) {
            sort = token;
            due = Stand.A;
            return rules.size() == 8 ? 3 : 0;
        }
        if (token.matches("[lbwqk]")) {
            people.append(token);
            due = Stand.SIGN_PERSON;
            return people.length() > 5 ? 3 : 0;
        }
        return 1;
    }

    private int faultOfNumber(int n) {
        switch (due) {
            case FACTS:
                facts = n;
                due = Stand.SIGN_SO;
                return n >= 1 && n <= 6 ? 0 : 2;
            case SO:
                so = n;
                due = Stand.SIGN_PRICE;
                return n < Math.pow(2, facts) ? 0 : 2;
            case PRICE:
                price = n;
                due = Stand.SIGN_LAW;
                return n >= 1 && n <= 9 ? 0 : 2;
            case A:
                a = n;
                due = Stand.SIGN_B;
                return n < facts ? 0 : 2;
            default:
                due = Stand.SIGN_RULE;
                rules.add(sort + a + n);
                return n < facts && n != a && told.add(sort + a + " " + n) ? 0 : 2;
        }
    }
}
