/** Objects of RingTasks told as texts, and made from texts. */
final class Show {
    private Show() {
    }

    static String labels(RingTasks x) {
        StringBuilder row = new StringBuilder();
        int n = x.count(2);
        for (int post = 0; post < n; post++) {
            row.append(x.at(post));
        }
        return row.toString();
    }

    static String numbers(RingTasks x) {
        StringBuilder row = new StringBuilder();
        int n = x.count(2);
        for (int post = 0; post < n; post++) {
            row.append(post == 0 ? "" : " ").append(x.told(post));
        }
        return row.toString();
    }

    /** For each LABEL those that MAY STAND behind it, as in "12 02 01". */
    static String task(RingTasks x) {
        StringBuilder rows = new StringBuilder();
        int k = x.count(0);
        for (int a = 0; a < k; a++) {
            rows.append(a == 0 ? "" : " ");
            for (int b = 0; b < k; b++) {
                rows.append(x.may(a, b) == 1 ? Integer.toString(b) : "");
            }
        }
        return rows.toString();
    }

    static String all(RingTasks x) {
        return task(x) + " / " + labels(x) + " / " + numbers(x);
    }

    static String first(RingTasks x, int n) {
        StringBuilder row = new StringBuilder();
        for (int post = 0; post < n; post++) {
            row.append(x.first(n, post));
        }
        return row.toString();
    }

    /** A new object with a task of k LABELS in which just the pairs told, as in "01 12 20", MAY STAND. */
    static RingTasks of(int k, String pairs) {
        RingTasks x = new RingTasks();
        x.labels(k);
        for (int a = 0; a < k; a++) {
            for (int b = 0; b < k; b++) {
                x.allow(a, b, (" " + pairs + " ").contains(" " + a + b + " "));
            }
        }
        return x;
    }

    static void put(RingTasks x, String labels) {
        x.ring(labels.length());
        for (int post = 0; post < labels.length(); post++) {
            x.put(post, labels.charAt(post) - '0');
        }
    }

    static void number(RingTasks x, int... numbers) {
        x.ring(numbers.length);
        for (int post = 0; post < numbers.length; post++) {
            x.number(post, numbers[post]);
        }
    }
}
