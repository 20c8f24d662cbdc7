/** A returns desk: sales, returns and exchanges, the stock of returned units, and the scores of customers. */
public final class BackhaulReturns {
    public static final int NEW = 0, OPENED = 1, DAMAGED = 2, DEFECTIVE = 3;
    public static final int RESTOCK = 0, TEST = 1, REPAIR = 2, SALVAGE = 3, VENDOR = 4;

    private static final int PRODUCTS = 10;
    private static final int CUSTOMERS = 10;
    private static final int CONDITIONS = 4;
    private static final int PLACES = 5;
    private static final int MOST_SALES = 40;
    private static final int MOST_LINES = 6;
    private static final int MOST_UNITS = 20;
    private static final int MOST_CENTS = 100000;
    private static final int MOST_DAYS_TO_PASS = 365;
    private static final int LAST_DAY = 100000;
    private static final int LAST_AGE = 60;
    private static final int UNIT_WINDOW = 30;
    private static final int EVENT_WINDOW = 90;
    private static final int BLOCKING_SCORE = 100;

    // Every return or exchange of the last 90 days scores 5 at least, and a score of 100 lets no
    // more through: of one customer, more than 20 never count at once.
    private static final int MOST_EVENTS = 20;

    private final Product[] catalog;
    private final Customer[] people;
    private final Sale[] register;
    private int saleCount;
    private int today;
    private int feeSum;

    public BackhaulReturns() {
        catalog = new Product[PRODUCTS];
        for (int i = 0; i < catalog.length; i++) {
            catalog[i] = new Product();
        }
        people = new Customer[CUSTOMERS];
        for (int i = 0; i < people.length; i++) {
            people[i] = new Customer();
        }
        register = new Sale[MOST_SALES];
    }

    // ---- products and days

    public int setProduct(int product, int price, int salvage, int repair) throws IllegalArgumentException {
        Product changed = productAt(product);
        if (changed == null || price < 1 || price > MOST_CENTS || !isCost(salvage) || !isCost(repair)) {
            throw new IllegalArgumentException("an argument is out of range");
        }
        int before = changed.unitPrice;
        changed.unitPrice = price;
        changed.salvageValue = salvage;
        changed.repairCost = repair;
        return before;
    }

    public int pass(int days) throws IllegalArgumentException, IllegalStateException {
        if (days < 1 || days > MOST_DAYS_TO_PASS) {
            throw new IllegalArgumentException("days is out of range");
        }
        if (today + days > LAST_DAY) {
            throw new IllegalStateException("the day would be above 100000");
        }
        today += days;
        return today;
    }

    // ---- sales

    public int open(int customer) throws IllegalArgumentException, IllegalStateException {
        Customer buyer = customerAt(customer);
        if (buyer == null) {
            throw new IllegalArgumentException("customer is out of range");
        }
        if (isRegisterFull()) {
            throw new IllegalStateException("there are 40 sales");
        }
        return enter(new Sale(buyer, saleCount, 0));
    }

    public int add(int sale, int product, int quantity)
            throws IndexOutOfBoundsException, IllegalArgumentException, IllegalStateException {
        Sale target = existingSale(sale);
        Product goods = productAt(product);
        if (goods == null || !isUnits(quantity)) {
            throw new IllegalArgumentException("product or quantity is out of range");
        }
        if (target.isPaid || target.lineCount >= MOST_LINES) {
            throw new IllegalStateException("the sale is paid, or has 6 lines");
        }
        return target.append(new Line(goods, quantity));
    }

    public int pay(int sale) throws IndexOutOfBoundsException, IllegalStateException {
        Sale target = existingSale(sale);
        if (target.isPaid || target.lineCount == 0) {
            throw new IllegalStateException("the sale is paid, or has no line");
        }
        target.settle(today);
        return target.amountPaid;
    }

    public int sales() {
        return saleCount;
    }

    public int paid(int sale) throws IndexOutOfBoundsException {
        return existingSale(sale).amountPaid;
    }

    public int kept(int sale, int line) throws IndexOutOfBoundsException {
        return existingLine(sale, line).keptUnits;
    }

    public int keptValue(int sale) throws IndexOutOfBoundsException {
        return netOf(existingSale(sale).keptGoods());
    }

    public int lineValue(int sale, int line) throws IndexOutOfBoundsException {
        Sale asked = existingSale(sale);
        if (asked.lineAt(line) == null) {
            throw new IndexOutOfBoundsException("there is no such line");
        }
        return asked.shareOf(line);
    }

    // ---- returns and exchanges

    public int giveBack(int sale, int line, int units, int condition)
            throws IndexOutOfBoundsException, IllegalArgumentException, IllegalStateException {
        Line returned = existingLine(sale, line);
        Sale from = existingSale(sale);
        if (!isUnits(units) || !isCondition(condition)) {
            throw new IllegalArgumentException("units or condition is out of range");
        }
        if (!canComeBack(from, returned, units) || isBlocked(from.buyer)) {
            throw new IllegalStateException("the units can not be returned");
        }
        int freed = takeBack(from, returned, units, condition, false);
        int fee = feeOn(freed, ageOf(from), condition);
        feeSum += fee;
        return freed - fee;
    }

    public int exchange(int sale, int line, int units, int condition, int product)
            throws IndexOutOfBoundsException, IllegalArgumentException, IllegalStateException {
        Line returned = existingLine(sale, line);
        Sale from = existingSale(sale);
        Product wanted = productAt(product);
        if (wanted == null || !isUnits(units) || !isCondition(condition)) {
            throw new IllegalArgumentException("units, condition or product is out of range");
        }
        if (!canComeBack(from, returned, units) || isBlocked(from.buyer) || isRegisterFull()) {
            throw new IllegalStateException("the units can not be exchanged");
        }
        int freed = takeBack(from, returned, units, condition, from.depth > 0);
        Sale made = new Sale(from.buyer, from.firstNumber, from.depth + 1);
        made.append(new Line(wanted, units));
        made.settle(from.firstPaidDay);
        enter(made);
        return made.amountPaid - freed;
    }

    public int quote(int sale, int line, int units, int condition)
            throws IndexOutOfBoundsException, IllegalArgumentException, IllegalStateException {
        Line returned = existingLine(sale, line);
        Sale from = existingSale(sale);
        if (!isUnits(units) || !isCondition(condition)) {
            throw new IllegalArgumentException("units or condition is out of range");
        }
        if (!canComeBack(from, returned, units)) {
            throw new IllegalStateException("the units can not be returned");
        }
        int freed = from.freedBy(returned, units);
        return freed - feeOn(freed, ageOf(from), condition);
    }

    public int released(int sale) throws IndexOutOfBoundsException {
        return existingSale(sale).amountReleased;
    }

    public int fees() {
        return feeSum;
    }

    public int firstSale(int sale) throws IndexOutOfBoundsException {
        return existingSale(sale).firstNumber;
    }

    public int exchanges(int sale) throws IndexOutOfBoundsException {
        return existingSale(sale).depth;
    }

    // ---- returned units

    public int bestOption(int product, int condition) throws IllegalArgumentException {
        Product asked = productAt(product);
        if (asked == null || !isCondition(condition)) {
            throw new IllegalArgumentException("an argument is out of range");
        }
        return asked.optionFor(condition);
    }

    public int bestWorth(int product, int condition) throws IllegalArgumentException {
        Product asked = productAt(product);
        if (asked == null || !isCondition(condition)) {
            throw new IllegalArgumentException("an argument is out of range");
        }
        return asked.worthOf(asked.optionFor(condition), condition);
    }

    public int stock(int product, int place) throws IllegalArgumentException {
        Product asked = productAt(product);
        if (asked == null || place < 0 || place >= PLACES) {
            throw new IllegalArgumentException("an argument is out of range");
        }
        return asked.unitsAt(place);
    }

    public int test(int product, boolean isSound) throws IllegalArgumentException, IllegalStateException {
        Product tested = productAt(product);
        if (tested == null) {
            throw new IllegalArgumentException("product is out of range");
        }
        if (tested.unitsAt(TEST) == 0) {
            throw new IllegalStateException("there is no unit to test");
        }
        // REPAIR or SALVAGE is just what a damaged unit has to choose from.
        int place = isSound ? RESTOCK : tested.optionFor(DAMAGED);
        tested.move(TEST, -1);
        tested.move(place, 1);
        return place;
    }

    // ---- scores

    public int score(int customer) throws IllegalArgumentException {
        Customer asked = customerAt(customer);
        if (asked == null) {
            throw new IllegalArgumentException("customer is out of range");
        }
        return asked.scoreOn(today);
    }

    // ---- what the calls are made of

    private Product productAt(int product) {
        return product >= 0 && product < catalog.length ? catalog[product] : null;
    }

    private Customer customerAt(int customer) {
        return customer >= 0 && customer < people.length ? people[customer] : null;
    }

    private Sale saleAt(int sale) {
        return sale >= 0 && sale < register.length ? register[sale] : null;
    }

    private Sale existingSale(int sale) {
        Sale found = saleAt(sale);
        if (found == null) {
            throw new IndexOutOfBoundsException("there is no such sale");
        }
        return found;
    }

    private Line existingLine(int sale, int line) {
        Line found = existingSale(sale).lineAt(line);
        if (found == null) {
            throw new IndexOutOfBoundsException("there is no such line");
        }
        return found;
    }

    private boolean isRegisterFull() {
        return saleCount >= register.length;
    }

    private int enter(Sale made) {
        int number = saleCount;
        if (number >= 0 && number < register.length) {
            register[number] = made;
            saleCount++;
        }
        return number;
    }

    private int ageOf(Sale sale) {
        return today - sale.firstPaidDay;
    }

    private boolean canComeBack(Sale from, Line returned, int units) {
        return from.isPaid && ageOf(from) <= LAST_AGE && units <= returned.keptUnits;
    }

    private boolean isBlocked(Customer buyer) {
        return buyer.scoreOn(today) >= BLOCKING_SCORE;
    }

    /** Takes units back, by a return or an exchange, and returns what is released by that. */
    private int takeBack(Sale from, Line returned, int units, int condition, boolean isChained) {
        int freed = from.freedBy(returned, units);
        from.amountReleased += freed;
        returned.keptUnits -= units;
        Product product = returned.product;
        product.move(product.optionFor(condition), units);
        from.buyer.remember(today, units, isChained);
        return freed;
    }

    private static boolean isCost(int cents) {
        return cents >= 0 && cents <= MOST_CENTS;
    }

    private static boolean isUnits(int units) {
        return units >= 1 && units <= MOST_UNITS;
    }

    private static boolean isCondition(int condition) {
        return condition >= 0 && condition < CONDITIONS;
    }

    private static int discountPercent(int goods) {
        if (goods < 5000) {
            return 0;
        }
        if (goods < 10000) {
            return 5;
        }
        return goods < 20000 ? 10 : 15;
    }

    private static int netOf(int goods) {
        return goods - goods * discountPercent(goods) / 100;
    }

    private static int feeOn(int freed, int age, int condition) {
        if (condition == DEFECTIVE || age <= 14) {
            return 0;
        }
        return freed * (age <= 30 ? 15 : 50) / 100;
    }

    /** A product, with the stock of its returned units. */
    private static final class Product {
        int unitPrice = 1000;
        int salvageValue = 200;
        int repairCost = 300;
        private final int[] unitsByPlace = new int[PLACES];

        int unitsAt(int place) {
            return place >= 0 && place < unitsByPlace.length ? unitsByPlace[place] : 0;
        }

        void move(int place, int units) {
            if (place >= 0 && place < unitsByPlace.length) {
                unitsByPlace[place] += units;
            }
        }

        int optionFor(int condition) {
            int best = -1;
            for (int option = 0; option < PLACES; option++) {
                if (isOffered(option, condition)
                        && (best < 0 || worthOf(option, condition) > worthOf(best, condition))) {
                    best = option;
                }
            }
            return best;
        }

        int worthOf(int option, int condition) {
            switch (option) {
                case RESTOCK:
                    return (condition == NEW ? 100 : 46) * unitPrice;
                case TEST:
                    return 68 * unitPrice - 5000 + Math.floorDiv(Math.max(repairWorth(), salvageWorth()), 5);
                case REPAIR:
                    return repairWorth();
                case SALVAGE:
                    return salvageWorth();
                default:
                    return 60 * unitPrice;
            }
        }

        private int repairWorth() {
            return 80 * unitPrice - 100 * repairCost;
        }

        private int salvageWorth() {
            return 100 * salvageValue;
        }

        private static boolean isOffered(int option, int condition) {
            switch (condition) {
                case NEW:
                    return option == RESTOCK;
                case OPENED:
                    return option == RESTOCK || option == TEST || option == SALVAGE;
                case DAMAGED:
                    return option == REPAIR || option == SALVAGE;
                default:
                    return option == REPAIR || option == SALVAGE || option == VENDOR;
            }
        }
    }

    /** A line of a sale: units of one product, at the price that it had when the line was added. */
    private static final class Line {
        final Product product;
        final int quantity;
        int keptUnits;
        private final int linePrice;

        Line(Product product, int quantity) {
            this.product = product;
            this.quantity = quantity;
            this.linePrice = product.unitPrice;
        }

        int goodsOf(int units) {
            return units * linePrice;
        }
    }

    /** A sale, open or paid. */
    private static final class Sale {
        final Customer buyer;
        final int firstNumber;
        final int depth;
        int lineCount;
        boolean isPaid;
        int firstPaidDay;
        int amountPaid;
        int amountReleased;
        private final Line[] lines = new Line[MOST_LINES];

        Sale(Customer buyer, int firstNumber, int depth) {
            this.buyer = buyer;
            this.firstNumber = firstNumber;
            this.depth = depth;
        }

        Line lineAt(int line) {
            return line >= 0 && line < lines.length ? lines[line] : null;
        }

        int append(Line line) {
            int number = lineCount;
            if (number >= 0 && number < lines.length) {
                lines[number] = line;
                lineCount++;
            }
            return number;
        }

        void settle(int dayOfFirst) {
            for (Line line : lines) {
                if (line != null) {
                    line.keptUnits = line.quantity;
                }
            }
            isPaid = true;
            firstPaidDay = dayOfFirst;
            amountPaid = netOf(keptGoods());
        }

        int keptGoods() {
            int goods = 0;
            for (Line line : lines) {
                if (line != null) {
                    goods += line.goodsOf(line.keptUnits);
                }
            }
            return goods;
        }

        /** What is released if units of a line come back. */
        int freedBy(Line returned, int units) {
            int keptThen = netOf(keptGoods() - returned.goodsOf(units));
            return Math.max(0, amountPaid - amountReleased - keptThen);
        }

        int shareOf(int line) {
            int goods = keptGoods();
            int net = netOf(goods);
            int left = net;
            for (int i = 0; i < lines.length; i++) {
                left -= wholeShare(i, net, goods);
            }
            int share = wholeShare(line, net, goods);
            return linesAhead(line, net, goods) < left ? share + 1 : share;
        }

        private int wholeShare(int line, int net, int goods) {
            Line asked = lineAt(line);
            if (asked == null || goods <= 0) {
                return 0;
            }
            return (int) ((long) net * asked.goodsOf(asked.keptUnits) / goods);
        }

        private long remainder(int line, int net, int goods) {
            Line asked = lineAt(line);
            if (asked == null || goods <= 0) {
                return -1;
            }
            return (long) net * asked.goodsOf(asked.keptUnits) % goods;
        }

        /** How many lines get a cent that is left before this one does. */
        private int linesAhead(int line, int net, int goods) {
            long own = remainder(line, net, goods);
            int ahead = 0;
            for (int i = 0; i < lines.length; i++) {
                long other = remainder(i, net, goods);
                if (other > own || other == own && i < line) {
                    ahead++;
                }
            }
            return ahead;
        }
    }

    /** A customer, with the returns and exchanges that can still count for the score. */
    private static final class Customer {
        private final int[] days = new int[MOST_EVENTS];
        private final int[] units = new int[MOST_EVENTS];
        private final boolean[] areChained = new boolean[MOST_EVENTS];
        private int count;

        int scoreOn(int day) {
            int points = 0;
            for (int i = 0; i < count && i < MOST_EVENTS; i++) {
                int age = day - days[i];
                if (age < UNIT_WINDOW) {
                    points += 10 * units[i];
                }
                if (age < EVENT_WINDOW) {
                    points += areChained[i] ? 25 : 5;
                }
            }
            return points;
        }

        void remember(int day, int unitsBack, boolean isChained) {
            forgetBefore(day - EVENT_WINDOW + 1);
            if (count >= 0 && count < MOST_EVENTS) {
                days[count] = day;
                units[count] = unitsBack;
                areChained[count] = isChained;
                count++;
            }
        }

        /** Makes room: what has left the longer window never counts again. */
        private void forgetBefore(int day) {
            int still = 0;
            for (int i = 0; i < count && i < MOST_EVENTS; i++) {
                if (days[i] >= day && still < MOST_EVENTS) {
                    days[still] = days[i];
                    units[still] = units[i];
                    areChained[still] = areChained[i];
                    still++;
                }
            }
            count = still;
        }
    }
}
