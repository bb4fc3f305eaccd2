/** All that can be asked of a workshop without changing it, but for the typed word and the told steps. */
final class State {
    private State() {
    }

    static String of(Bruhatry x) {
        StringBuilder text = new StringBuilder();
        text.append(x.mirrors()).append(';');
        for (int s = 0; s < x.mirrors(); s++) {
            for (int t = 0; t < x.mirrors(); t++) {
                text.append(x.c(s, t)).append(',');
            }
        }
        text.append(x.elements()).append(';');
        for (int i = 0; i < x.elements(); i++) {
            text.append(Check.form(x, i));
        }
        for (int i = 0; i < 8; i++) {
            try {
                text.append(x.powerOf(i)).append('^').append(x.factors(i)).append('^').append(x.summit(i));
            } catch (IndexOutOfBoundsException e) {
                break;
            }
        }
        return text.toString();
    }
}
