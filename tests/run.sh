#!/bin/bash
# Compiles the class, runs the tests of the project and every test under ../shared/tests, and fails if one fails.
cd "$(dirname "$0")/.." || exit 1
CLASS=src/main/java/WatchLodgers.java
OUT=$(mktemp -d) || exit 1
trap 'rm -rf "$OUT"' EXIT
passed=0
failed=0

# A test: its name, its main class, then the files that are compiled together with the class.
run_test() {
    local name=$1 main=$2
    shift 2
    if javac -encoding UTF-8 -d "$OUT/$name" "$CLASS" "$@" && java -cp "$OUT/$name" "$main"; then
        passed=$((passed + 1))
    else
        failed=$((failed + 1))
        echo "test $name fails"
    fi
}

run_test project AllTests tests/*.java

shared=0
while IFS= read -r file; do
    shared=$((shared + 1))
    echo "-- $file"
    run_test "shared$shared" "$(basename "$file" .java)" "$file"
done < <(find ../shared/tests -name '*.java' | sort)
if [ "$shared" -eq 0 ]; then
    failed=$((failed + 1))
    echo "there is no test under ../shared/tests"
fi

echo "$passed passed, $failed failed"
[ "$failed" -eq 0 ]
