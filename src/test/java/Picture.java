/** All that can be asked of an object, as one text. Looking passes a day: look once, and last. */
final class Picture {
    private final BackhaulReturns x;
    private final StringBuilder text = new StringBuilder();

    private Picture(BackhaulReturns x) {
        this.x = x;
    }

    static String of(BackhaulReturns x) {
        Picture picture = new Picture(x);
        picture.takeProducts();
        picture.takeSales();
        picture.takeScores();
        picture.takeDay();
        return picture.text.toString();
    }

    private void takeProducts() {
        for (int product = 0; product < 10; product++) {
            text.append(" product ").append(product).append(':');
            for (int condition = 0; condition < 4; condition++) {
                text.append(' ').append(x.bestWorth(product, condition));
            }
            for (int place = 0; place < 5; place++) {
                text.append(' ').append(x.stock(product, place));
            }
        }
    }

    private void takeSales() {
        int sales = x.sales();
        text.append(" fees ").append(x.fees()).append(" sales ").append(sales);
        for (int sale = 0; sale < sales; sale++) {
            text.append(" sale ").append(sale).append(": ").append(x.paid(sale))
                    .append(' ').append(x.released(sale)).append(' ').append(x.keptValue(sale))
                    .append(' ').append(x.firstSale(sale)).append(' ').append(x.exchanges(sale));
            takeLines(sale);
        }
    }

    private void takeLines(int sale) {
        try {
            for (int line = 0; line < 6; line++) {
                text.append(" line ").append(x.kept(sale, line)).append(' ').append(x.lineValue(sale, line));
            }
        } catch (IndexOutOfBoundsException e) {
            text.append('.');
        }
    }

    private void takeScores() {
        for (int customer = 0; customer < 10; customer++) {
            text.append(" score ").append(x.score(customer));
        }
    }

    private void takeDay() {
        try {
            text.append(" next day ").append(x.pass(1));
        } catch (IllegalStateException e) {
            text.append(" last day");
        }
    }
}
