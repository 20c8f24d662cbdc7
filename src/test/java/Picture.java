/**
 * All that can be asked of an object, as one text, and what comes of it: open sales are paid and days
 * pass, so that lines, payments and returns show which no call tells at once. Look once, and last.
 */
final class Picture {
    private final BackhaulReturns x;
    private final StringBuilder text = new StringBuilder();

    private Picture(BackhaulReturns x) {
        this.x = x;
    }

    static String of(BackhaulReturns x) {
        Picture picture = new Picture(x);
        picture.takeProducts();
        picture.takeSales();
        picture.takeScores();
        picture.payOpenSales();
        picture.passDays(1);
        picture.passDays(28);
        picture.takeScores();
        picture.passDays(1);
        picture.takeScores();
        return picture.text.toString();
    }

    private void takeProducts() {
        for (int product = 0; product < 10; product++) {
            text.append(" product ").append(product).append(':');
            for (int condition = 0; condition < 4; condition++) {
                text.append(' ').append(x.bestWorth(product, condition));
            }
            for (int place = 0; place < 5; place++) {
                text.append(' ').append(x.stock(product, place));
            }
        }
    }

    private void takeSales() {
        int sales = x.sales();
        text.append(" fees ").append(x.fees()).append(" sales ").append(sales);
        for (int sale = 0; sale < sales; sale++) {
            text.append(" sale ").append(sale).append(": ").append(x.paid(sale))
                    .append(' ').append(x.released(sale)).append(' ').append(x.keptValue(sale))
                    .append(' ').append(x.firstSale(sale)).append(' ').append(x.exchanges(sale));
            takeLines(sale);
        }
    }

    private void takeLines(int sale) {
        try {
            for (int line = 0; line < 6; line++) {
                text.append(" line ").append(x.kept(sale, line)).append(' ').append(x.lineValue(sale, line));
            }
        } catch (IndexOutOfBoundsException e) {
            text.append('.');
        }
    }

    private void takeScores() {
        for (int customer = 0; customer < 10; customer++) {
            text.append(" score ").append(x.score(customer));
        }
    }

    private void payOpenSales() {
        int sales = x.sales();
        for (int sale = 0; sale < sales; sale++) {
            try {
                text.append(" pays ").append(x.pay(sale));
            } catch (IllegalStateException e) {
                text.append(" pays not");
            }
        }
    }

    private void passDays(int days) {
        try {
            text.append(" then day ").append(x.pass(days));
        } catch (IllegalStateException e) {
            text.append(" last day");
        }
    }
}
