/** Counts and prints the calls whose answer is not the one that is due. */
final class Check {
    interface Call {
        Object answer();
    }

    private int calls = 0;
    private int wrong = 0;

    /** What a call answers, or the simple name of what it throws behind "throws.". Numbers are told as long. */
    static Object outcome(Call call) {
        try {
            Object answer = call.answer();
            return answer instanceof Integer ? (Object) Long.valueOf((Integer) answer) : answer;
        } catch (RuntimeException e) {
            return "throws." + e.getClass().getSimpleName();
        }
    }

    void due(Object due, String told, Call call) {
        Object answer = outcome(call);
        Object awaited = due instanceof Integer ? (Object) Long.valueOf((Integer) due) : due;
        calls++;
        if (!awaited.equals(answer)) {
            wrong++;
            System.out.println(told + " answered " + answer + ", due is " + awaited);
        }
    }

    void range(String told, Call call) {
        due("throws.IllegalArgumentException", told, call);
    }

    void state(String told, Call call) {
        due("throws.IllegalStateException", told, call);
    }

    void element(String told, Call call) {
        due("throws.NoSuchElementException", told, call);
    }

    void end() {
        System.out.println(calls + " calls, " + wrong + " of them wrong");
        if (wrong > 0 || calls == 0) {
            System.exit(1);
        }
    }
}
