import java.util.ArrayList;
import java.util.List;

/**
 * The document told a second time, with lists and copies and without care for cost, so that the
 * ModelTest can hold the program against it. An exception is answered as its name.
 */
final class Model {
    static final class Row {
        int hooks;
        int colour;
        int tension = 5;
        int card = -1;
        List<int[]> pieces = new ArrayList<>();

        boolean like(Row other) {
            return hooks == other.hooks && colour == other.colour && tension == other.tension;
        }
    }

    static final class Card {
        Row row;
        int hooks;
        int wear;
    }

    static final class Order {
        List<Row> pattern;
        int rows;
        char state = 'w';

        Row row(int index) {
            return pattern.get(index % pattern.size());
        }

        boolean right(List<Row> cloth, int index) {
            return index < rows && row(index).like(cloth.get(index));
        }
    }

    static final String INDEX = "IndexOutOfBoundsException";
    static final String ARGUMENT = "IllegalArgumentException";
    static final String STATE = "IllegalStateException";
    static final String UNSUPPORTED = "UnsupportedOperationException";
    static final String ELEMENT = "NoSuchElementException";

    List<List<Row>> patterns = new ArrayList<>();
    List<Card> cards = new ArrayList<>();
    List<List<int[]>> threads = new ArrayList<>();
    int[] cones = new int[4];
    int[] thrown = new int[4];
    int knots;
    List<Order> orders = new ArrayList<>();
    int onLoom = -1;
    List<Row> cloth = new ArrayList<>();
    int entries;
    int unwoven;
    String word = "";

    Model() {
        for (int colour = 0; colour < 4; colour++) {
            threads.add(new ArrayList<>());
        }
    }

    private static boolean in(int number, int least, int most) {
        return least <= number && number <= most;
    }

    Object addPattern(int rows) {
        if (!in(rows, 1, 24)) {
            return ARGUMENT;
        }
        if (patterns.size() == 6) {
            return STATE;
        }
        List<Row> pattern = new ArrayList<>();
        for (int i = 0; i < rows; i++) {
            pattern.add(new Row());
        }
        patterns.add(pattern);
        return patterns.size() - 1;
    }

    Object setRow(int pattern, int row, int hooks, int colour, int tension) {
        if (!in(pattern, 0, patterns.size() - 1) || !in(row, 0, patterns.get(pattern).size() - 1)) {
            return INDEX;
        }
        if (!in(hooks, 0, 65535) || !in(colour, 0, 3) || !in(tension, 1, 9)) {
            return ARGUMENT;
        }
        Row told = new Row();
        told.hooks = hooks;
        told.colour = colour;
        told.tension = tension;
        return patterns.get(pattern).set(row, told).hooks;
    }

    Object compile(int pattern) {
        if (!in(pattern, 0, patterns.size() - 1)) {
            return INDEX;
        }
        List<Card> after = new ArrayList<>(cards);
        List<Integer> given = new ArrayList<>();
        for (Row row : patterns.get(pattern)) {
            int card = 0;
            while (card < after.size() && !after.get(card).row.like(row)) {
                card++;
            }
            if (card == after.size()) {
                Card punched = new Card();
                punched.row = row;
                punched.hooks = row.hooks;
                after.add(punched);
            }
            given.add(card);
        }
        if (after.size() > 100) {
            return STATE;
        }
        for (int row = 0; row < given.size(); row++) {
            patterns.get(pattern).get(row).card = given.get(row);
        }
        int punched = after.size() - cards.size();
        cards = after;
        return punched;
    }

    Object cardOf(int pattern, int row) {
        if (!in(pattern, 0, patterns.size() - 1) || !in(row, 0, patterns.get(pattern).size() - 1)) {
            return INDEX;
        }
        int card = patterns.get(pattern).get(row).card;
        return card < 0 ? ELEMENT : (Object) card;
    }

    Object readsAs(int card) {
        if (!in(card, 0, cards.size() - 1)) {
            return INDEX;
        }
        Card read = cards.get(card);
        int blind = read.wear >= 8 ? read.wear % 16 : -1;
        int hooks = 0;
        for (int hook = 0; hook < 16; hook++) {
            if (hook != blind && (read.hooks & 1 << hook) != 0) {
                hooks += 1 << hook;
            }
        }
        return hooks;
    }

    Object wear(int card) {
        return in(card, 0, cards.size() - 1) ? (Object) cards.get(card).wear : INDEX;
    }

    Object slip(int card, int hook) {
        if (!in(card, 0, cards.size() - 1)) {
            return INDEX;
        }
        if (!in(hook, 0, 15)) {
            return ARGUMENT;
        }
        Card slipped = cards.get(card);
        boolean isSet = (slipped.hooks & 1 << hook) != 0;
        slipped.hooks += isSet ? -(1 << hook) : 1 << hook;
        return slipped.hooks;
    }

    Object punch(int card) {
        if (!in(card, 0, cards.size() - 1)) {
            return INDEX;
        }
        Card punched = cards.get(card);
        int before = punched.wear;
        punched.wear = 0;
        punched.hooks = punched.row.hooks;
        return before;
    }

    Object shared(int order, int other) {
        if (!in(order, 0, orders.size() - 1) || !in(other, 0, orders.size() - 1)) {
            return INDEX;
        }
        Order one = orders.get(order);
        Order two = orders.get(other);
        for (int row = 0;; row++) {
            if (row == one.rows || row == two.rows || !one.row(row).like(two.row(row))) {
                return row;
            }
        }
    }

    Object addCone(int colour, int lot, int length) {
        if (!in(colour, 0, 3) || !in(lot, 0, 99) || !in(length, 1, 2000)) {
            return ARGUMENT;
        }
        if (cones[colour] == 12) {
            return STATE;
        }
        cones[colour]++;
        threads.get(colour).add(new int[] {lot, length, 0});
        return threads.get(colour).size();
    }

    Object stock(int colour) {
        if (!in(colour, 0, 3)) {
            return ARGUMENT;
        }
        int sum = 0;
        for (int[] thread : threads.get(colour)) {
            sum += thread[1];
        }
        return sum;
    }

    Object threads(int colour) {
        return in(colour, 0, 3) ? (Object) threads.get(colour).size() : ARGUMENT;
    }

    Object ofThread(int colour, int index, int what) {
        if (!in(colour, 0, 3)) {
            return ARGUMENT;
        }
        return in(index, 0, threads.get(colour).size() - 1) ? (Object) threads.get(colour).get(index)[what] : INDEX;
    }

    Object thrownAway(int colour) {
        return in(colour, 0, 3) ? (Object) thrown[colour] : ARGUMENT;
    }

    Object addOrder(int pattern, int rows) {
        if (!in(pattern, 0, patterns.size() - 1)) {
            return INDEX;
        }
        if (!in(rows, 1, 60)) {
            return ARGUMENT;
        }
        if (orders.size() == 8) {
            return STATE;
        }
        Order order = new Order();
        order.pattern = patterns.get(pattern);
        order.rows = rows;
        orders.add(order);
        return orders.size() - 1;
    }

    Object stateOf(int order) {
        return in(order, 0, orders.size() - 1) ? (Object) orders.get(order).state : INDEX;
    }

    Object begin(int order) {
        if (!in(order, 0, orders.size() - 1)) {
            return INDEX;
        }
        if (orders.get(order).state != 'w') {
            return UNSUPPORTED;
        }
        if (onLoom >= 0) {
            return STATE;
        }
        onLoom = order;
        orders.get(order).state = 'l';
        return true;
    }

    Object weave(int rows) {
        if (!in(rows, 1, 60)) {
            return ARGUMENT;
        }
        if (onLoom < 0) {
            return STATE;
        }
        int done = 0;
        while (done < rows && weaveOne()) {
            done++;
        }
        return done;
    }

    /** Weaves with copies of the threads, which are kept only if there was enough. */
    private boolean weaveOne() {
        Order order = orders.get(onLoom);
        if (cloth.size() == order.rows || order.row(cloth.size()).card < 0) {
            return false;
        }
        int number = order.row(cloth.size()).card;
        Card card = cards.get(number);
        int colour = card.row.colour;
        List<int[]> left = new ArrayList<>();
        for (int[] thread : threads.get(colour)) {
            left.add(thread.clone());
        }
        Row row = new Row();
        int away = 0;
        int tied = 0;
        for (int need = 30 - card.row.tension; need > 0;) {
            if (left.isEmpty()) {
                return false;
            }
            int[] first = left.get(0);
            if (!row.pieces.isEmpty()) {
                if (first[1] <= 3) {
                    away += first[1];
                    left.remove(0);
                    continue;
                }
                first[1] -= 3;
                tied++;
            }
            int taken = Math.min(need, first[1]);
            row.pieces.add(new int[] {first[0], taken, first[2]});
            need -= taken;
            first[1] -= taken;
            if (first[1] == 0) {
                left.remove(0);
            }
        }
        threads.set(colour, left);
        thrown[colour] += away;
        knots += tied;
        row.hooks = (Integer) readsAs(number);
        row.colour = colour;
        row.tension = card.row.tension;
        card.wear++;
        cloth.add(row);
        entries++;
        return true;
    }

    Object hooksOf(int index) {
        return in(index, 0, cloth.size() - 1) ? (Object) cloth.get(index).hooks : INDEX;
    }

    Object colourOf(int index) {
        return in(index, 0, cloth.size() - 1) ? (Object) cloth.get(index).colour : INDEX;
    }

    Object hookAt(int index, int hook) {
        if (!in(index, 0, cloth.size() - 1)) {
            return INDEX;
        }
        if (!in(hook, 0, 15)) {
            return ARGUMENT;
        }
        return (cloth.get(index).hooks & 1 << hook) != 0 ? 'x' : '.';
    }

    Object lots() {
        List<Integer> different = new ArrayList<>();
        for (Row row : cloth) {
            for (int[] piece : row.pieces) {
                if (!different.contains(row.colour * 100 + piece[0])) {
                    different.add(row.colour * 100 + piece[0]);
                }
            }
        }
        return different.size();
    }

    Object rightRows(int order) {
        if (!in(order, 0, orders.size() - 1)) {
            return INDEX;
        }
        int count = 0;
        while (count < cloth.size() && orders.get(order).right(cloth, count)) {
            count++;
        }
        return count;
    }

    Object look(int rows) {
        if (!in(rows, 1, 60)) {
            return ARGUMENT;
        }
        if (onLoom < 0) {
            return STATE;
        }
        int answer = -1;
        for (int index = cloth.size() - 1; index >= 0 && index >= cloth.size() - rows; index--) {
            if (!orders.get(onLoom).right(cloth, index)) {
                answer = index;
            }
        }
        return answer;
    }

    Object unweave(int rows) {
        if (!in(rows, 0, cloth.size())) {
            return INDEX;
        }
        int count = 0;
        while (cloth.size() > rows) {
            Row row = cloth.remove(cloth.size() - 1);
            List<int[]> back = new ArrayList<>();
            for (int[] piece : row.pieces) {
                if (piece[2] + 1 > 3) {
                    thrown[row.colour] += piece[1];
                } else {
                    back.add(new int[] {piece[0], piece[1], piece[2] + 1});
                }
            }
            threads.get(row.colour).addAll(0, back);
            count++;
            entries++;
            unwoven++;
        }
        return count;
    }

    Object recover() {
        if (onLoom < 0) {
            return STATE;
        }
        int most = 0;
        for (int order = 0; order < orders.size(); order++) {
            if ("wl".indexOf(orders.get(order).state) >= 0) {
                most = Math.max(most, (Integer) rightRows(order));
            }
        }
        int taker = -1;
        for (int order = orders.size() - 1; order >= 0; order--) {
            if (orders.get(order).state == 'w' && (Integer) rightRows(order) == most) {
                taker = order;
            }
        }
        if ((Integer) rightRows(onLoom) == most) {
            taker = onLoom;
        }
        unweave(most);
        orders.get(onLoom).state = 'w';
        orders.get(taker).state = 'l';
        onLoom = taker;
        return taker;
    }

    Object cut() {
        if (onLoom < 0) {
            return STATE;
        }
        Order order = orders.get(onLoom);
        if (cloth.size() != order.rows) {
            return UNSUPPORTED;
        }
        order.state = 's';
        for (int index = 0; index < cloth.size(); index++) {
            if (!order.right(cloth, index)) {
                order.state = 'b';
            }
        }
        cloth.clear();
        entries = 0;
        onLoom = -1;
        return order.state;
    }

    Object type(char letter) {
        if (!in(letter, 'a', 'z')) {
            return ARGUMENT;
        }
        if (word.length() == 20) {
            return STATE;
        }
        word += letter;
        return word.length();
    }

    Object doWord() {
        String done = word;
        word = "";
        switch (done) {
            case "weave":
                return onLoom >= 0 && weaveOne();
            case "look":
                return onLoom >= 0;
            case "back":
                return unweave(cloth.size() - 1) != INDEX;
            case "mend":
                return recover() != STATE;
            case "cut":
                return cut() instanceof Character;
            default:
                return false;
        }
    }

    Object rightShare() {
        if (onLoom < 0) {
            return STATE;
        }
        if (cloth.isEmpty()) {
            return ELEMENT;
        }
        int count = 0;
        for (int index = 0; index < cloth.size(); index++) {
            count += orders.get(onLoom).right(cloth, index) ? 1 : 0;
        }
        return (float) count / (float) cloth.size();
    }

    Object meanWear() {
        int sum = 0;
        int count = 0;
        for (List<int[]> ofColour : threads) {
            for (int[] thread : ofColour) {
                sum += thread[2];
                count++;
            }
        }
        return count == 0 ? ELEMENT : (Object) ((double) sum / (double) count);
    }
}
