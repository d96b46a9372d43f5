/**
 * All that can be seen of a ship but how many calls were REFUSED and status(): a refused call must
 * leave it as it was.
 */
final class Seen {
    private Seen() {
    }

    static String of(WhaleLays x) {
        StringBuilder seen = new StringBuilder("counts");
        for (int what = 0; what < 24; what++) {
            if (what < 7 || what > 11) {
                seen.append(' ').append(x.count(what));
            }
        }
        for (int hand = 0; hand < x.count(0); hand++) {
            seen.append(", hand");
            for (int what = 0; what < 8; what++) {
                seen.append(' ').append(x.of(hand, what));
            }
        }
        for (int ground = 0; ground < x.count(2); ground++) {
            seen.append(", ground");
            for (int what = 0; what < 5; what++) {
                seen.append(' ').append(x.at(ground, what));
            }
        }
        seen.append(", words ").append(x.barrels(1)).append(' ').append(x.barrels(2));
        seen.append(", years ").append(x.drawn(0, 0)).append(' ').append(x.drawn(0, 1));
        seen.append(", spray ").append(x.spray());
        return seen.toString();
    }
}
