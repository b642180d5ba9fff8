import java.util.Arrays;
import java.util.NoSuchElementException;

/**
 * A loom with its card compiler, its thread stock and its recovery from faults.
 *
 * Hooks, colour and tension of a row are kept together in one int, the "weft", so that two rows
 * are alike just if their wefts are equal, on paper, on the cloth and in the log.
 */
public final class JacquardDeck {
    private static final int MOST_PATTERNS = 6;
    private static final int MOST_PATTERN_ROWS = 24;
    private static final int HOOKS = 16;
    private static final int MOST_HOOKS_VALUE = 65535;
    private static final int COLOURS = 4;
    private static final int MOST_TENSION = 9;
    private static final int FIRST_TENSION = 5;
    private static final int COLOUR_SHIFT = 16;
    private static final int TENSION_SHIFT = 18;
    private static final int PLAIN_WEFT = FIRST_TENSION << TENSION_SHIFT;

    private static final int MOST_CARDS = 100;
    private static final int WEAR_THAT_BLINDS = 8;

    private static final int MOST_CONES = 12;
    private static final int MOST_LOT = 99;
    private static final int MOST_CONE_LENGTH = 2000;
    private static final int LOOSE_ROW_LENGTH = 30;
    private static final int KNOT_LENGTH = 3;
    private static final int MOST_THREAD_WEAR = 3;

    private static final int MOST_ORDERS = 8;
    private static final int MOST_CLOTH_ROWS = 60;
    private static final char WAITING = 'w';
    private static final char ON_LOOM = 'l';
    private static final char SOLD = 's';
    private static final char SECOND = 'b';

    private static final int MOST_LETTERS = 20;

    private final Pattern[] patterns = new Pattern[MOST_PATTERNS];
    private int patternCount;
    private final Card[] deck = new Card[MOST_CARDS];
    private int cardCount;
    private final Stock[] stocks = new Stock[COLOURS];
    private final Order[] orders = new Order[MOST_ORDERS];
    private int orderCount;
    private Order onLoom;
    private final Cloth cloth = new Cloth();
    private final Cloth found = new Cloth();
    private final Log log = new Log();
    private int unwovenRows;
    private final StringBuilder letters = new StringBuilder();

    public JacquardDeck() {
        for (int colour = 0; colour < COLOURS; colour++) {
            stocks[colour] = new Stock();
        }
    }

    // ---- patterns and cards ----

    public int addPattern(int rows) throws IllegalArgumentException, IllegalStateException {
        if (!isBetween(rows, 1, MOST_PATTERN_ROWS)) {
            throw new IllegalArgumentException("a pattern has 1 to 24 rows");
        }
        if (patternCount >= MOST_PATTERNS) {
            throw new IllegalStateException("there are 6 patterns");
        }
        patterns[patternCount] = new Pattern(rows);
        patternCount++;
        return patternCount - 1;
    }

    public int setRow(int pattern, int row, int hooks, int colour, int tension)
            throws IndexOutOfBoundsException, IllegalArgumentException {
        Pattern told = patternNumbered(pattern);
        if (!told.has(row)) {
            throw new IndexOutOfBoundsException("no such row");
        }
        if (!isBetween(hooks, 0, MOST_HOOKS_VALUE) || !isBetween(colour, 0, COLOURS - 1)
                || !isBetween(tension, 1, MOST_TENSION)) {
            throw new IllegalArgumentException("hooks, colour or tension out of range");
        }
        int before = hooksIn(told.weftAt(row));
        told.tell(row, weftOf(hooks, colour, tension));
        return before;
    }

    public int compile(int pattern) throws IndexOutOfBoundsException, IllegalStateException {
        Pattern compiled = patternNumbered(pattern);
        int missing = cardsMissingFor(compiled);
        if (cardCount + missing > MOST_CARDS) {
            throw new IllegalStateException("there would be more than 100 cards");
        }
        for (int row = 0; row < compiled.rows; row++) {
            int weft = compiled.weftAt(row);
            Card card = cardPunchedFor(weft);
            compiled.give(row, card == null ? punchNewCard(weft) : card);
        }
        return missing;
    }

    public int cardOf(int pattern, int row) throws IndexOutOfBoundsException, NoSuchElementException {
        Pattern asked = patternNumbered(pattern);
        if (!asked.has(row)) {
            throw new IndexOutOfBoundsException("no such row");
        }
        Card card = asked.cardAt(row);
        if (card == null) {
            throw new NoSuchElementException("the row has no card");
        }
        return card.number;
    }

    public int cards() {
        return cardCount;
    }

    public int readsAs(int card) throws IndexOutOfBoundsException {
        return cardNumbered(card).reading();
    }

    public int wear(int card) throws IndexOutOfBoundsException {
        return cardNumbered(card).wear;
    }

    public int slip(int card, int hook) throws IndexOutOfBoundsException, IllegalArgumentException {
        Card slipped = cardNumbered(card);
        if (!isBetween(hook, 0, HOOKS - 1)) {
            throw new IllegalArgumentException("no such hook");
        }
        slipped.hooks ^= 1 << hook;
        return slipped.hooks;
    }

    public int punch(int card) throws IndexOutOfBoundsException {
        Card punched = cardNumbered(card);
        int before = punched.wear;
        punched.hooks = hooksIn(punched.weft);
        punched.wear = 0;
        return before;
    }

    public int shared(int order, int other) throws IndexOutOfBoundsException {
        Order one = orderNumbered(order);
        Order two = orderNumbered(other);
        int most = Math.min(one.rows, two.rows);
        int alike = 0;
        while (alike < most && one.pattern.weftAt(alike) == two.pattern.weftAt(alike)) {
            alike++;
        }
        return alike;
    }

    // ---- threads ----

    public int addCone(int colour, int lot, int length) throws IllegalArgumentException, IllegalStateException {
        Stock stock = stockNumbered(colour);
        if (!isBetween(lot, 0, MOST_LOT) || !isBetween(length, 1, MOST_CONE_LENGTH)) {
            throw new IllegalArgumentException("lot or length out of range");
        }
        if (stock.cones >= MOST_CONES) {
            throw new IllegalStateException("12 cones of the colour came");
        }
        stock.putBehind(lot, length);
        return stock.countThreads();
    }

    public int stock(int colour) throws IllegalArgumentException {
        return lengthOf(stockNumbered(colour).front);
    }

    public int threads(int colour) throws IllegalArgumentException {
        return stockNumbered(colour).countThreads();
    }

    public int wearOfThread(int colour, int index) throws IllegalArgumentException, IndexOutOfBoundsException {
        return threadNumbered(stockNumbered(colour), index).wear;
    }

    public int lotOfThread(int colour, int index) throws IllegalArgumentException, IndexOutOfBoundsException {
        return threadNumbered(stockNumbered(colour), index).lot;
    }

    public int thrownAway(int colour) throws IllegalArgumentException {
        return stockNumbered(colour).lengthThrownAway;
    }

    public int knots() {
        int sum = 0;
        for (Stock stock : stocks) {
            sum += stock.knotsMade;
        }
        return sum;
    }

    // ---- orders and the loom ----

    public int addOrder(int pattern, int rows)
            throws IndexOutOfBoundsException, IllegalArgumentException, IllegalStateException {
        Pattern ordered = patternNumbered(pattern);
        if (!isBetween(rows, 1, MOST_CLOTH_ROWS)) {
            throw new IllegalArgumentException("an order has 1 to 60 rows");
        }
        if (orderCount >= MOST_ORDERS) {
            throw new IllegalStateException("there are 8 orders");
        }
        orders[orderCount] = new Order(orderCount, ordered, rows);
        orderCount++;
        return orderCount - 1;
    }

    public char stateOf(int order) throws IndexOutOfBoundsException {
        return orderNumbered(order).state;
    }

    public boolean begin(int order)
            throws IndexOutOfBoundsException, UnsupportedOperationException, IllegalStateException {
        Order begun = orderNumbered(order);
        if (begun.state != WAITING) {
            throw new UnsupportedOperationException("the order does not wait");
        }
        if (onLoom != null) {
            throw new IllegalStateException("an order is on the loom");
        }
        begun.state = ON_LOOM;
        onLoom = begun;
        return true;
    }

    public int weave(int rows) throws IllegalArgumentException, IllegalStateException {
        if (!isBetween(rows, 1, MOST_CLOTH_ROWS)) {
            throw new IllegalArgumentException("1 to 60 rows are woven");
        }
        Order order = orderOnLoom();
        int done = 0;
        while (done < rows && weaveNextRow(order)) {
            done++;
        }
        return done;
    }

    public int woven() {
        return cloth.rows;
    }

    public int hooksOf(int index) throws IndexOutOfBoundsException {
        return hooksIn(weftOnCloth(index));
    }

    public int colourOf(int index) throws IndexOutOfBoundsException {
        return colourIn(weftOnCloth(index));
    }

    public char hookAt(int index, int hook) throws IndexOutOfBoundsException, IllegalArgumentException {
        int weft = weftOnCloth(index);
        if (!isBetween(hook, 0, HOOKS - 1)) {
            throw new IllegalArgumentException("no such hook");
        }
        return (hooksIn(weft) >> hook & 1) == 1 ? 'x' : '.';
    }

    public int lots() {
        int sum = 0;
        for (int colour = 0; colour < COLOURS; colour++) {
            sum += cloth.countLots(colour);
        }
        return sum;
    }

    public int rightRows(int order) throws IndexOutOfBoundsException {
        return orderNumbered(order).firstRightRows(cloth);
    }

    // ---- faults ----

    public int look(int rows) throws IllegalArgumentException, IllegalStateException {
        if (!isBetween(rows, 1, MOST_CLOTH_ROWS)) {
            throw new IllegalArgumentException("1 to 60 rows are looked at");
        }
        Order order = orderOnLoom();
        for (int index = Math.max(0, cloth.rows - rows); index < cloth.rows; index++) {
            if (!order.isRight(cloth, index)) {
                return index;
            }
        }
        return -1;
    }

    public int unweave(int rows) throws IndexOutOfBoundsException {
        if (!isBetween(rows, 0, cloth.rows)) {
            throw new IndexOutOfBoundsException("the cloth has not so many rows");
        }
        return unweaveDownTo(rows);
    }

    public int recover() throws IllegalStateException {
        Order before = orderOnLoom();
        Order best = before;
        int most = before.firstRightRows(cloth);
        for (Order order : orders) {
            if (order != null && order.state == WAITING && order.firstRightRows(cloth) > most) {
                best = order;
                most = order.firstRightRows(cloth);
            }
        }
        unweaveDownTo(most);
        before.state = WAITING;
        best.state = ON_LOOM;
        onLoom = best;
        return best.number;
    }

    public char cut() throws IllegalStateException, UnsupportedOperationException {
        Order order = orderOnLoom();
        if (cloth.rows != order.rows) {
            throw new UnsupportedOperationException("the cloth has not as many rows as the order");
        }
        log.findCloth(found);
        order.state = order.firstRightRows(found) == order.rows ? SOLD : SECOND;
        for (int colour = 0; colour < COLOURS; colour++) {
            stocks[colour].lengthGone += cloth.lengthOfColour(colour);
        }
        cloth.empty();
        log.empty();
        onLoom = null;
        return order.state;
    }

    public int entries() {
        return log.count;
    }

    public int unwoven() {
        return unwovenRows;
    }

    // ---- words ----

    public int type(char letter) throws IllegalArgumentException, IllegalStateException {
        if (letter < 'a' || letter > 'z') {
            throw new IllegalArgumentException("a letter is 'a' to 'z'");
        }
        if (letters.length() >= MOST_LETTERS) {
            throw new IllegalStateException("20 letters are typed");
        }
        letters.append(letter);
        return letters.length();
    }

    public boolean doWord() {
        String word = letters.toString();
        letters.setLength(0);
        if (word.equals("weave")) {
            return onLoom != null && weaveNextRow(onLoom);
        }
        if (word.equals("look")) {
            // What is seen in the last 8 rows is not told: a word answers only whether it could be done.
            return onLoom != null;
        }
        if (word.equals("back")) {
            return cloth.rows > 0 && unweaveDownTo(cloth.rows - 1) == 1;
        }
        if (word.equals("mend")) {
            return mendIfPossible();
        }
        if (word.equals("cut")) {
            return cutIfPossible();
        }
        return false;
    }

    // ---- figures ----

    public float rightShare() throws IllegalStateException, NoSuchElementException {
        Order order = orderOnLoom();
        int all = cloth.rows;
        if (all <= 0) {
            throw new NoSuchElementException("the cloth has no rows");
        }
        int right = 0;
        for (int index = 0; index < all; index++) {
            if (order.isRight(cloth, index)) {
                right++;
            }
        }
        return (float) right / (float) all;
    }

    public double meanWear() throws NoSuchElementException {
        int sum = 0;
        int count = 0;
        for (Stock stock : stocks) {
            for (Yarn yarn = stock.front; yarn != null; yarn = yarn.next) {
                sum += yarn.wear;
                count++;
            }
        }
        if (count <= 0) {
            throw new NoSuchElementException("there are no threads");
        }
        return (double) sum / (double) count;
    }

    public boolean isSound() {
        log.findCloth(found);
        return cloth.isLike(found) && isWearSound() && isLengthSound();
    }

    // ---- what the face is made of ----

    private static boolean isBetween(int number, int least, int most) {
        return number >= least && number <= most;
    }

    private static int weftOf(int hooks, int colour, int tension) {
        return hooks | colour << COLOUR_SHIFT | tension << TENSION_SHIFT;
    }

    private static int hooksIn(int weft) {
        return weft & MOST_HOOKS_VALUE;
    }

    private static int colourIn(int weft) {
        return weft >> COLOUR_SHIFT & COLOURS - 1;
    }

    private static int tensionIn(int weft) {
        return weft >> TENSION_SHIFT;
    }

    private static int lengthOf(Yarn first) {
        int sum = 0;
        for (Yarn yarn = first; yarn != null; yarn = yarn.next) {
            sum += yarn.length;
        }
        return sum;
    }

    private static boolean hasSoundWear(Yarn first) {
        for (Yarn yarn = first; yarn != null; yarn = yarn.next) {
            if (yarn.wear > MOST_THREAD_WEAR) {
                return false;
            }
        }
        return true;
    }

    private Pattern patternNumbered(int number) {
        Pattern pattern = isBetween(number, 0, MOST_PATTERNS - 1) ? patterns[number] : null;
        if (pattern == null) {
            throw new IndexOutOfBoundsException("no such pattern");
        }
        return pattern;
    }

    private Card cardNumbered(int number) {
        Card card = isBetween(number, 0, MOST_CARDS - 1) ? deck[number] : null;
        if (card == null) {
            throw new IndexOutOfBoundsException("no such card");
        }
        return card;
    }

    private Stock stockNumbered(int colour) {
        if (!isBetween(colour, 0, COLOURS - 1)) {
            throw new IllegalArgumentException("no such colour");
        }
        return stocks[colour];
    }

    private static Yarn threadNumbered(Stock stock, int index) {
        Yarn yarn = index < 0 ? null : stock.front;
        for (int passed = 0; passed < index && yarn != null; passed++) {
            yarn = yarn.next;
        }
        if (yarn == null) {
            throw new IndexOutOfBoundsException("no such thread");
        }
        return yarn;
    }

    private Order orderNumbered(int number) {
        Order order = isBetween(number, 0, MOST_ORDERS - 1) ? orders[number] : null;
        if (order == null) {
            throw new IndexOutOfBoundsException("no such order");
        }
        return order;
    }

    private Order orderOnLoom() {
        if (onLoom == null) {
            throw new IllegalStateException("no order is on the loom");
        }
        return onLoom;
    }

    private int weftOnCloth(int index) {
        if (!cloth.has(index)) {
            throw new IndexOutOfBoundsException("no such row of the cloth");
        }
        return cloth.wefts[index];
    }

    /** The lowest card that was punched for this weft, or null. */
    private Card cardPunchedFor(int weft) {
        for (Card card : deck) {
            if (card != null && card.weft == weft) {
                return card;
            }
        }
        return null;
    }

    /** How many cards must be punched for the pattern, looked at first because compile may not fail midway. */
    private int cardsMissingFor(Pattern pattern) {
        int missing = 0;
        for (int row = 0; row < pattern.rows; row++) {
            if (pattern.isFirstLikeIt(row) && cardPunchedFor(pattern.weftAt(row)) == null) {
                missing++;
            }
        }
        return missing;
    }

    private Card punchNewCard(int weft) {
        Card card = new Card(cardCount, weft);
        if (cardCount < MOST_CARDS) {
            deck[cardCount] = card;
            cardCount++;
        }
        return card;
    }

    private boolean weaveNextRow(Order order) {
        Card card = order.pattern.cardAt(cloth.rows);
        if (card == null || cloth.rows >= order.rows) {
            return false;
        }
        Stock stock = stocks[colourIn(card.weft)];
        int need = LOOSE_ROW_LENGTH - tensionIn(card.weft);
        if (!stock.hasEnough(need)) {
            return false;
        }
        int weft = weftOf(card.reading(), colourIn(card.weft), tensionIn(card.weft));
        cloth.lay(weft, stock.take(need));
        log.add(weft);
        card.wear++;
        return true;
    }

    private int unweaveDownTo(int rows) {
        int count = cloth.rows - rows;
        for (int last = cloth.rows - 1; last >= rows && cloth.has(last); last--) {
            int colour = colourIn(cloth.wefts[last]);
            stocks[colour].takeBack(cloth.dropLast());
            log.add(Log.UNWOVEN);
            unwovenRows++;
        }
        return count;
    }

    private boolean mendIfPossible() {
        if (onLoom == null) {
            return false;
        }
        recover();
        return true;
    }

    private boolean cutIfPossible() {
        if (onLoom == null || cloth.rows != onLoom.rows) {
            return false;
        }
        cut();
        return true;
    }

    private boolean isWearSound() {
        for (Stock stock : stocks) {
            if (!hasSoundWear(stock.front)) {
                return false;
            }
        }
        for (int row = 0; row < cloth.rows; row++) {
            if (!hasSoundWear(cloth.pieces[row])) {
                return false;
            }
        }
        return true;
    }

    private boolean isLengthSound() {
        for (int colour = 0; colour < COLOURS; colour++) {
            Stock stock = stocks[colour];
            int known = lengthOf(stock.front) + cloth.lengthOfColour(colour) + stock.lengthGone
                    + stock.lengthThrownAway + stock.knotsMade * KNOT_LENGTH;
            if (known != stock.lengthCame) {
                return false;
            }
        }
        return true;
    }

    /** Rows told on paper, each with the card that it was compiled to, or null. */
    private static final class Pattern {
        final int rows;
        private final int[] wefts = new int[MOST_PATTERN_ROWS];
        private final Card[] cards = new Card[MOST_PATTERN_ROWS];

        Pattern(int rows) {
            this.rows = rows;
            Arrays.fill(wefts, PLAIN_WEFT);
        }

        boolean has(int row) {
            return isBetween(row, 0, rows - 1);
        }

        /** The row of the pattern at a row of the cloth, the pattern being gone round. */
        private int rowAt(int index) {
            return rows < 1 || index < 0 ? 0 : index % rows;
        }

        int weftAt(int index) {
            return wefts[rowAt(index)];
        }

        Card cardAt(int index) {
            return cards[rowAt(index)];
        }

        void tell(int row, int weft) {
            wefts[rowAt(row)] = weft;
            cards[rowAt(row)] = null;
        }

        void give(int row, Card card) {
            cards[rowAt(row)] = card;
        }

        boolean isFirstLikeIt(int row) {
            for (int earlier = 0; earlier < row; earlier++) {
                if (weftAt(earlier) == weftAt(row)) {
                    return false;
                }
            }
            return true;
        }
    }

    /** A card: the weft that it was punched for, and its hooks as they are after slips. */
    private static final class Card {
        final int number;
        final int weft;
        int hooks;
        int wear;

        Card(int number, int weft) {
            this.number = number;
            this.weft = weft;
            this.hooks = hooksIn(weft);
        }

        int reading() {
            return wear < WEAR_THAT_BLINDS ? hooks : hooks & ~(1 << Math.floorMod(wear, HOOKS));
        }
    }

    /** A thread, in a chain of them: of a colour from the front on, or of a cloth row from the last taken on. */
    private static final class Yarn {
        final int lot;
        int length;
        int wear;
        Yarn next;

        Yarn(int lot, int length, int wear, Yarn next) {
            this.lot = lot;
            this.length = length;
            this.wear = wear;
            this.next = next;
        }
    }

    /** The threads of a colour, and where thread of it went. */
    private static final class Stock {
        Yarn front;
        int cones;
        int knotsMade;
        int lengthCame;
        int lengthThrownAway;
        int lengthGone;

        void putBehind(int lot, int length) {
            Yarn cone = new Yarn(lot, length, 0, null);
            Yarn last = front;
            while (last != null && last.next != null) {
                last = last.next;
            }
            if (last == null) {
                front = cone;
            } else {
                last.next = cone;
            }
            cones++;
            lengthCame += length;
        }

        int countThreads() {
            int count = 0;
            for (Yarn yarn = front; yarn != null; yarn = yarn.next) {
                count++;
            }
            return count;
        }

        /** Looked at before anything is taken, because a row that can't be woven uses nothing. */
        boolean hasEnough(int need) {
            int usable = 0;
            for (Yarn yarn = front; yarn != null && usable < need; yarn = yarn.next) {
                usable += yarn == front ? yarn.length : Math.max(0, yarn.length - KNOT_LENGTH);
            }
            return usable >= need;
        }

        /** Takes thread for a row, and returns its pieces, the last taken one first. */
        Yarn take(int need) {
            Yarn pieces = null;
            int missing = need;
            Yarn yarn = front;
            while (yarn != null && missing > 0) {
                Yarn following = yarn.next;
                if (pieces != null && yarn.length <= KNOT_LENGTH) {
                    lengthThrownAway += yarn.length;
                    front = following;
                } else {
                    if (pieces != null) {
                        yarn.length -= KNOT_LENGTH;
                        knotsMade++;
                    }
                    pieces = takeOfFront(yarn, missing, pieces);
                    missing -= pieces.length;
                }
                yarn = following;
            }
            return pieces;
        }

        /** Takes as much of the front thread as it has, but not more than needed; a rest stays in front. */
        private Yarn takeOfFront(Yarn yarn, int most, Yarn takenBefore) {
            if (yarn.length > most) {
                yarn.length -= most;
                return new Yarn(yarn.lot, most, yarn.wear, takenBefore);
            }
            front = yarn.next;
            yarn.next = takenBefore;
            return yarn;
        }

        void takeBack(Yarn pieces) {
            Yarn piece = pieces;
            while (piece != null) {
                Yarn takenBefore = piece.next;
                if (piece.wear >= MOST_THREAD_WEAR) {
                    lengthThrownAway += piece.length;
                } else {
                    piece.wear++;
                    piece.next = front;
                    front = piece;
                }
                piece = takenBefore;
            }
        }
    }

    /** An order of a pattern, which is gone round. */
    private static final class Order {
        final int number;
        final Pattern pattern;
        final int rows;
        char state = WAITING;

        Order(int number, Pattern pattern, int rows) {
            this.number = number;
            this.pattern = pattern;
            this.rows = rows;
        }

        boolean isRight(Cloth cloth, int index) {
            return cloth.has(index) && index < rows && cloth.wefts[index] == pattern.weftAt(index);
        }

        int firstRightRows(Cloth cloth) {
            int count = 0;
            while (count < cloth.rows && isRight(cloth, count)) {
                count++;
            }
            return count;
        }
    }

    /** Woven rows, each with the pieces of thread in it, the last taken one first. */
    private static final class Cloth {
        int rows;
        final int[] wefts = new int[MOST_CLOTH_ROWS];
        final Yarn[] pieces = new Yarn[MOST_CLOTH_ROWS];

        boolean has(int index) {
            return isBetween(index, 0, rows - 1);
        }

        void lay(int weft, Yarn piecesOfRow) {
            if (rows < MOST_CLOTH_ROWS) {
                wefts[rows] = weft;
                pieces[rows] = piecesOfRow;
                rows++;
            }
        }

        /** Drops the last row and returns its pieces. */
        Yarn dropLast() {
            if (rows < 1) {
                return null;
            }
            rows--;
            return pieces[rows];
        }

        void empty() {
            rows = 0;
        }

        boolean isLike(Cloth other) {
            if (rows != other.rows) {
                return false;
            }
            for (int row = 0; row < rows; row++) {
                if (wefts[row] != other.wefts[row]) {
                    return false;
                }
            }
            return true;
        }

        int lengthOfColour(int colour) {
            int sum = 0;
            for (int row = 0; row < rows; row++) {
                if (colourIn(wefts[row]) == colour) {
                    sum += lengthOf(pieces[row]);
                }
            }
            return sum;
        }

        /** Lots are 0 to 99, so two longs hold a bit for each. */
        int countLots(int colour) {
            long low = 0;
            long high = 0;
            for (int row = 0; row < rows; row++) {
                Yarn first = colourIn(wefts[row]) == colour ? pieces[row] : null;
                for (Yarn yarn = first; yarn != null; yarn = yarn.next) {
                    if (yarn.lot < 64) {
                        low |= 1L << yarn.lot;
                    } else {
                        high |= 1L << yarn.lot - 64;
                    }
                }
            }
            return Long.bitCount(low) + Long.bitCount(high);
        }
    }

    /** Every row woven and unwoven since the loom was empty: the weft of a woven row, or UNWOVEN. */
    private static final class Log {
        static final int UNWOVEN = -1;
        private static final int FIRST_LENGTH = 64;
        // All thread that can come (48 cones of 2000), woven at most 4 times in rows of at least 21,
        // gives less than 18300 rows, each unwoven once at most: the log never reaches this length.
        private static final int MOST_LENGTH = 65536;
        private int[] entryList = new int[FIRST_LENGTH];
        int count;

        void add(int entry) {
            if (count >= entryList.length && entryList.length < MOST_LENGTH) {
                entryList = Arrays.copyOf(entryList, entryList.length * 2);
            }
            if (count < entryList.length) {
                entryList[count] = entry;
                count++;
            }
        }

        void empty() {
            count = 0;
        }

        /** Finds the cloth a second time, from the entries alone. */
        void findCloth(Cloth found) {
            found.empty();
            for (int entry = 0; entry < count; entry++) {
                if (entryList[entry] == UNWOVEN) {
                    found.dropLast();
                } else {
                    found.lay(entryList[entry], null);
                }
            }
        }
    }
}
