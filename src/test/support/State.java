/** All that can be seen of an object without changing it, as one text. */
final class State {
    private State() {
    }

    static String of(WoolThreads x) {
        StringBuilder seen = new StringBuilder();
        seen.append("fault ").append(x.fault()).append(" counts");
        for (int what = 0; what <= 6; what++) {
            seen.append(' ').append(x.count(what));
        }
        law(x, seen);
        for (int story = 0; story < x.count(1); story++) {
            story(x, story, seen);
        }
        seen.append(" finds");
        for (int find = 0; find < x.count(2); find++) {
            for (int what = 0; what < 4; what++) {
                seen.append(' ').append(x.found(find, what));
            }
        }
        return seen.toString();
    }

    private static void law(WoolThreads x, StringBuilder seen) {
        for (int sort = 0; sort < 10; sort++) {
            seen.append(" sort ").append(sort);
            for (int garment = 0; garment < 8; garment++) {
                seen.append(' ').append(x.sheds(garment, sort));
            }
            for (int what = 0; what < 5; what++) {
                seen.append(' ').append(x.told(sort, what));
            }
            seen.append(' ').append(x.alike(sort)).append(' ').append(x.share(sort));
            for (int what = 0; what < 3; what++) {
                seen.append(' ').append(x.rare(sort, what));
            }
            for (int other = 0; other < 10; other++) {
                seen.append(' ').append(x.together(sort, other));
            }
        }
    }

    private static void story(WoolThreads x, int story, StringBuilder seen) {
        seen.append(" story ").append(x.events(story)).append(' ').append(x.scale(story)).append(' ');
        for (int k = 0; k < x.digits(story); k++) {
            seen.append(x.digit(story, k));
        }
        for (int hour = 0; hour < 100; hour += 9) {
            for (int place = 0; place < 10; place++) {
                seen.append(' ').append(x.wears(story, place, hour));
                for (int sort = 0; sort < 10; sort++) {
                    seen.append(' ').append(x.lies(story, place, sort, hour));
                }
            }
        }
    }
}
