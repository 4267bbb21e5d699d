import java.util.ArrayList;
import java.util.List;

/** How a text is read, once more and another way: TOKENS first, then a table of what may follow what. */
final class Reader {
    private record Token(char sort, int place, int value) {
    }

    /** What stands at each turn: a letter or sign, or s any SORT, or a NUMBER by its letter. */
    private static final String TURNS = "wL;gI;sS,F,R;";
    private static final String NUMBERS = "LISFR";
    private static final int[] LEAST = {1, 0, 1, 0, 1};
    private static final int[] MOST = {99, 99, 20, 99, 9};
    private static final int FIRST_PULL = 3, FIRST_ANT = 6, END = 13;

    final int ants;
    final int pulls;
    /** 0: none. */
    final int fault;
    final int place;

    private Reader(int ants, int pulls, int fault, int place) {
        this.ants = ants;
        this.pulls = pulls;
        this.fault = fault;
        this.place = place;
    }

    int answer() {
        return fault == 0 ? ants : -1000100 - place;
    }

    static Reader of(String text) {
        int turn = 0;
        int ants = 0;
        int pulls = 0;
        for (Token token : tokens(text)) {
            if (token.sort == '$' && turn == END) {
                return new Reader(ants, pulls, 0, 0);
            }
            turn = chosen(turn, token.sort);
            int fault = faultAt(turn, token, ants, pulls);
            if (fault != 0) {
                return new Reader(0, 0, fault, token.place);
            }
            pulls += turn == FIRST_PULL ? 1 : 0;
            ants += turn == FIRST_ANT ? 1 : 0;
            turn++;
        }
        return new Reader(0, 0, 1, text.length());
    }

    /** Behind a pull another may come, and behind an ant. */
    private static int chosen(int turn, char sort) {
        if (turn == FIRST_ANT && sort == 'g') {
            return FIRST_PULL;
        }
        return turn == END ? FIRST_ANT : turn;
    }

    private static int faultAt(int turn, Token token, int ants, int pulls) {
        char due = TURNS.charAt(turn);
        int number = NUMBERS.indexOf(due);
        if (number >= 0) {
            boolean good = token.value >= LEAST[number] && token.value <= MOST[number];
            return token.sort != '9' ? 1 : good ? 0 : 2;
        }
        if (due == 's' ? "ptqbu".indexOf(token.sort) < 0 : token.sort != due) {
            return 1;
        }
        boolean room = due == 's' ? ants < 6 : due != 'g' || pulls < 5;
        return room ? 0 : 3;
    }

    /** Numbers have the sort 9, what is none has the sort ?, the end has the sort $. */
    private static List<Token> tokens(String text) {
        List<Token> all = new ArrayList<>();
        int at = 0;
        while (at < text.length()) {
            String figures = text.substring(at).replaceFirst("(?s)[^0-9].*$", "");
            char sign = text.charAt(at);
            if (figures.isEmpty()) {
                boolean known = sign >= 'a' && sign <= 'z' || sign == ',' || sign == ';';
                all.add(new Token(known ? sign : '?', at, -1));
                at++;
            } else if (figures.length() > 2) {
                all.add(new Token('?', at, -1));
                at += figures.length();
            } else {
                all.add(new Token('9', at, Integer.parseInt(figures)));
                at += figures.length();
            }
        }
        all.add(new Token('$', at, -1));
        return all;
    }
}
