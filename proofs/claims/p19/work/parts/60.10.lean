theorem lm_1923 : Cond.code yX11_init cX11_init 2 none ∈ lw_tbl := List.mem_append_right _ (tin_1 (List.mem_of_getElem? (i := 33) rfl))
theorem lm_1924 : Cond.classLink RX11 49 RX1 ∈ lw_tbl := List.mem_append_right _ (tin_2 (List.mem_of_getElem? (i := 35) rfl))
theorem lm_1925 : Cond.arrayClass .int ∈ lw_tbl := List.mem_append_right _ (tin_1 (List.mem_of_getElem? (i := 68) rfl))
theorem lm_1926 : Cond.instantiable RX4 3 ∈ lw_tbl := List.mem_append_right _ (tin_2 (List.mem_of_getElem? (i := 19) rfl))
theorem lm_1927 : Cond.classLink RX11 38 RX4 ∈ lw_tbl := List.mem_append_right _ (tin_2 (List.mem_of_getElem? (i := 18) rfl))
theorem lm_1928 : Cond.instantiable RX7 7 ∈ lw_tbl := List.mem_append_right _ (tin_1 (List.mem_of_getElem? (i := 220) rfl))
theorem lm_1929 : Cond.classLink RX11 29 RX7 ∈ lw_tbl := List.mem_append_right _ (tin_1 (List.mem_of_getElem? (i := 219) rfl))
theorem lm_1930 : Cond.instantiable RX6 9 ∈ lw_tbl := List.mem_append_right _ (tin_1 (List.mem_of_getElem? (i := 181) rfl))
theorem lm_1931 : Cond.classLink RX11 20 RX6 ∈ lw_tbl := List.mem_append_right _ (tin_1 (List.mem_of_getElem? (i := 180) rfl))
theorem lm_1932 : Cond.instantiable RX9 18 ∈ lw_tbl := List.mem_append_right _ (tin_1 (List.mem_of_getElem? (i := 38) rfl))
theorem lm_1933 : Cond.classLink RX11 13 RX9 ∈ lw_tbl := List.mem_append_right _ (tin_1 (List.mem_of_getElem? (i := 37) rfl))
theorem lm_1934 : Cond.arrayClass .byte ∈ lw_tbl := List.mem_append_right _ (tin_1 (List.mem_of_getElem? (i := 67) rfl))
theorem lm_1935 : Cond.code objectInit ⟨#[0xb1]⟩ 1 none ∈ lw_tbl := List.mem_append_right _ (tin_1 (List.mem_of_getElem? (i := 36) rfl))
theorem lm_1936 : Cond.instanceMethod objectInit ∈ lw_tbl := List.mem_append_right _ (tin_1 (List.mem_of_getElem? (i := 35) rfl))
theorem lm_1937 : Cond.methodLink RX11 1 objectInit ∈ lw_tbl := List.mem_append_right _ (tin_1 (List.mem_of_getElem? (i := 34) rfl))
theorem lr_wsX11_init_r1 : ∀ w ∈ wsX11_init_r1, w ∈ lw_tbl := (List.forall_mem_cons.mpr ⟨lm_1937, (List.forall_mem_cons.mpr ⟨lm_1936, (List.forall_mem_cons.mpr ⟨lm_1935, (List.forall_mem_cons.mpr ⟨lm_1934, (List.forall_mem_cons.mpr ⟨lm_303, (List.forall_mem_cons.mpr ⟨lm_1933, (List.forall_mem_cons.mpr ⟨lm_1932, (List.forall_mem_cons.mpr ⟨lm_317, (List.forall_mem_cons.mpr ⟨lm_313, (List.forall_mem_cons.mpr ⟨lm_1931, (List.forall_mem_cons.mpr ⟨lm_1930, (List.forall_mem_cons.mpr ⟨lm_1312, (List.forall_mem_cons.mpr ⟨lm_309, (List.forall_mem_cons.mpr ⟨lm_1929, (List.forall_mem_cons.mpr ⟨lm_1928, (List.forall_mem_cons.mpr ⟨lm_358, (List.forall_mem_cons.mpr ⟨lm_336, (List.forall_mem_cons.mpr ⟨lm_1927, (List.forall_mem_cons.mpr ⟨lm_1926, (List.forall_mem_cons.mpr ⟨lm_467, (List.forall_mem_cons.mpr ⟨lm_463, (List.forall_mem_cons.mpr ⟨lm_1925, (List.forall_mem_cons.mpr ⟨lm_562, (List.forall_mem_cons.mpr ⟨lm_1924, (fun _ h => absurd h List.not_mem_nil)⟩)⟩)⟩)⟩)⟩)⟩)⟩)⟩)⟩)⟩)⟩)⟩)⟩)⟩)⟩)⟩)⟩)⟩)⟩)⟩)⟩)⟩)⟩)⟩)
theorem lm_1938 : Cond.instanceMethod yX9_init ∈ lw_tbl := List.mem_append_right _ (tin_1 (List.mem_of_getElem? (i := 40) rfl))
theorem lm_1939 : Cond.instantiable RX10 3 ∈ lw_tbl := List.mem_append_right _ (tin_2 (List.mem_of_getElem? (i := 201) rfl))
theorem lm_1940 : Cond.instantiable RX1 4 ∈ lw_tbl := List.mem_append_right _ (tin_2 (List.mem_of_getElem? (i := 178) rfl))
theorem lm_1941 : Cond.instantiable RX8 9 ∈ lw_tbl := List.mem_append_right _ (tin_2 (List.mem_of_getElem? (i := 141) rfl))
theorem lm_1942 : Cond.classLink RX11 84 RX8 ∈ lw_tbl := List.mem_append_right _ (tin_2 (List.mem_of_getElem? (i := 140) rfl))
theorem lm_1943 : Cond.instantiable RX3 2 ∈ lw_tbl := List.mem_append_right _ (tin_2 (List.mem_of_getElem? (i := 128) rfl))
theorem lm_1944 : Cond.classLink RX11 77 RX3 ∈ lw_tbl := List.mem_append_right _ (tin_2 (List.mem_of_getElem? (i := 127) rfl))
theorem lm_1945 : Cond.instantiable RX0 13 ∈ lw_tbl := List.mem_append_right _ (tin_2 (List.mem_of_getElem? (i := 78) rfl))
theorem lm_1946 : Cond.classLink RX11 70 RX0 ∈ lw_tbl := List.mem_append_right _ (tin_2 (List.mem_of_getElem? (i := 77) rfl))
theorem lm_1947 : Cond.instantiable RX5 9 ∈ lw_tbl := List.mem_append_right _ (tin_2 (List.mem_of_getElem? (i := 40) rfl))
theorem lm_1948 : Cond.classLink RX11 61 RX5 ∈ lw_tbl := List.mem_append_right _ (tin_2 (List.mem_of_getElem? (i := 39) rfl))
theorem lm_1949 : Cond.classLink RX11 55 RX10 ∈ lw_tbl := List.mem_append_right _ (tin_2 (List.mem_of_getElem? (i := 37) rfl))
theorem lr_wsX11_init_r2 : ∀ w ∈ wsX11_init_r2, w ∈ lw_tbl := (List.forall_mem_cons.mpr ⟨lm_938, (List.forall_mem_cons.mpr ⟨lm_1949, (List.forall_mem_cons.mpr ⟨lm_524, (List.forall_mem_cons.mpr ⟨lm_1948, (List.forall_mem_cons.mpr ⟨lm_1947, (List.forall_mem_cons.mpr ⟨lm_620, (List.forall_mem_cons.mpr ⟨lm_657, (List.forall_mem_cons.mpr ⟨lm_1946, (List.forall_mem_cons.mpr ⟨lm_1945, (List.forall_mem_cons.mpr ⟨lm_707, (List.forall_mem_cons.mpr ⟨lm_737, (List.forall_mem_cons.mpr ⟨lm_1944, (List.forall_mem_cons.mpr ⟨lm_1943, (List.forall_mem_cons.mpr ⟨lm_754, (List.forall_mem_cons.mpr ⟨lm_766, (List.forall_mem_cons.mpr ⟨lm_1942, (List.forall_mem_cons.mpr ⟨lm_1941, (List.forall_mem_cons.mpr ⟨lm_811, (List.forall_mem_cons.mpr ⟨lm_807, (List.forall_mem_cons.mpr ⟨lm_1940, (List.forall_mem_cons.mpr ⟨lm_982, (List.forall_mem_cons.mpr ⟨lm_1939, (List.forall_mem_cons.mpr ⟨lm_543, (List.forall_mem_cons.mpr ⟨lm_1938, (fun _ h => absurd h List.not_mem_nil)⟩)⟩)⟩)⟩)⟩)⟩)⟩)⟩)⟩)⟩)⟩)⟩)⟩)⟩)⟩)⟩)⟩)⟩)⟩)⟩)⟩)⟩)⟩)⟩)
theorem lm_1950 : Cond.methodLink RX2 3 objectInit ∈ lw_tbl := List.mem_append_right _ (tin_1 (List.mem_of_getElem? (i := 48) rfl))
theorem lm_1951 : Cond.code yX2_init cX2_init 1 none ∈ lw_tbl := List.mem_append_right _ (tin_1 (List.mem_of_getElem? (i := 47) rfl))
theorem lm_1952 : Cond.instanceMethod yX2_init ∈ lw_tbl := List.mem_append_right _ (tin_1 (List.mem_of_getElem? (i := 46) rfl))
theorem lm_1953 : Cond.instantiable RX2 5 ∈ lw_tbl := List.mem_append_right _ (tin_1 (List.mem_of_getElem? (i := 44) rfl))
theorem lm_1954 : Cond.classLink RX9 45 RX2 ∈ lw_tbl := List.mem_append_right _ (tin_1 (List.mem_of_getElem? (i := 43) rfl))
theorem lm_1955 : Cond.methodLink RX9 3 objectInit ∈ lw_tbl := List.mem_append_right _ (tin_1 (List.mem_of_getElem? (i := 42) rfl))
theorem lm_1956 : Cond.code yX9_init cX9_init 1 none ∈ lw_tbl := List.mem_append_right _ (tin_1 (List.mem_of_getElem? (i := 41) rfl))
theorem lr_wsX11_init_r3 : ∀ w ∈ wsX11_init_r3, w ∈ lw_tbl := (List.forall_mem_cons.mpr ⟨lm_1956, (List.forall_mem_cons.mpr ⟨lm_1955, (List.forall_mem_cons.mpr ⟨lm_581, (List.forall_mem_cons.mpr ⟨lm_948, (List.forall_mem_cons.mpr ⟨lm_377, (List.forall_mem_cons.mpr ⟨lm_949, (List.forall_mem_cons.mpr ⟨lm_950, (List.forall_mem_cons.mpr ⟨lm_951, (List.forall_mem_cons.mpr ⟨lm_483, (List.forall_mem_cons.mpr ⟨lm_952, (List.forall_mem_cons.mpr ⟨lm_953, (List.forall_mem_cons.mpr ⟨lm_954, (List.forall_mem_cons.mpr ⟨lm_955, (List.forall_mem_cons.mpr ⟨lm_1954, (List.forall_mem_cons.mpr ⟨lm_1953, (List.forall_mem_cons.mpr ⟨lm_349, (List.forall_mem_cons.mpr ⟨lm_956, (List.forall_mem_cons.mpr ⟨lm_1952, (List.forall_mem_cons.mpr ⟨lm_1951, (List.forall_mem_cons.mpr ⟨lm_1950, (List.forall_mem_cons.mpr ⟨lm_444, (List.forall_mem_cons.mpr ⟨lm_324, (List.forall_mem_cons.mpr ⟨lm_443, (List.forall_mem_cons.mpr ⟨lm_424, (fun _ h => absurd h List.not_mem_nil)⟩)⟩)⟩)⟩)⟩)⟩)⟩)⟩)⟩)⟩)⟩)⟩)⟩)⟩)⟩)⟩)⟩)⟩)⟩)⟩)⟩)⟩)⟩)⟩)
theorem lm_1957 : Cond.code yX5_init cX5_init 3 none ∈ lw_tbl := List.mem_append_right _ (tin_2 (List.mem_of_getElem? (i := 43) rfl))
theorem lm_1958 : Cond.instanceMethod yX5_init ∈ lw_tbl := List.mem_append_right _ (tin_2 (List.mem_of_getElem? (i := 42) rfl))
theorem lm_1959 : Cond.methodLink RX11 63 yX5_init ∈ lw_tbl := List.mem_append_right _ (tin_2 (List.mem_of_getElem? (i := 41) rfl))
theorem lm_1960 : Cond.methodLink RX4 3 objectInit ∈ lw_tbl := List.mem_append_right _ (tin_2 (List.mem_of_getElem? (i := 23) rfl))
theorem lm_1961 : Cond.code yX4_init cX4_init 1 none ∈ lw_tbl := List.mem_append_right _ (tin_2 (List.mem_of_getElem? (i := 22) rfl))
theorem lm_1962 : Cond.instanceMethod yX4_init ∈ lw_tbl := List.mem_append_right _ (tin_2 (List.mem_of_getElem? (i := 21) rfl))
theorem lm_1963 : Cond.methodLink RX7 3 objectInit ∈ lw_tbl := List.mem_append_right _ (tin_1 (List.mem_of_getElem? (i := 224) rfl))
theorem lm_1964 : Cond.code yX7_init cX7_init 2 none ∈ lw_tbl := List.mem_append_right _ (tin_1 (List.mem_of_getElem? (i := 223) rfl))
theorem lm_1965 : Cond.instanceMethod yX7_init ∈ lw_tbl := List.mem_append_right _ (tin_1 (List.mem_of_getElem? (i := 222) rfl))
theorem lm_1966 : Cond.methodLink RX11 31 yX7_init ∈ lw_tbl := List.mem_append_right _ (tin_1 (List.mem_of_getElem? (i := 221) rfl))
theorem lm_1967 : Cond.classLink RX6 9 RX9 ∈ lw_tbl := List.mem_append_right _ (tin_1 (List.mem_of_getElem? (i := 186) rfl))
theorem lm_1968 : Cond.methodLink RX6 3 objectInit ∈ lw_tbl := List.mem_append_right _ (tin_1 (List.mem_of_getElem? (i := 185) rfl))
theorem lm_1969 : Cond.code yX6_init cX6_init 2 none ∈ lw_tbl := List.mem_append_right _ (tin_1 (List.mem_of_getElem? (i := 184) rfl))
theorem lm_1970 : Cond.instanceMethod yX6_init ∈ lw_tbl := List.mem_append_right _ (tin_1 (List.mem_of_getElem? (i := 183) rfl))
theorem lm_1971 : Cond.methodLink RX11 22 yX6_init ∈ lw_tbl := List.mem_append_right _ (tin_1 (List.mem_of_getElem? (i := 182) rfl))
theorem lr_wsX11_init_r4 : ∀ w ∈ wsX11_init_r4, w ∈ lw_tbl := (List.forall_mem_cons.mpr ⟨lm_1971, (List.forall_mem_cons.mpr ⟨lm_1970, (List.forall_mem_cons.mpr ⟨lm_1969, (List.forall_mem_cons.mpr ⟨lm_1968, (List.forall_mem_cons.mpr ⟨lm_1967, (List.forall_mem_cons.mpr ⟨lm_1333, (List.forall_mem_cons.mpr ⟨lm_1347, (List.forall_mem_cons.mpr ⟨lm_1309, (List.forall_mem_cons.mpr ⟨lm_1966, (List.forall_mem_cons.mpr ⟨lm_1965, (List.forall_mem_cons.mpr ⟨lm_1964, (List.forall_mem_cons.mpr ⟨lm_1963, (List.forall_mem_cons.mpr ⟨lm_328, (List.forall_mem_cons.mpr ⟨lm_410, (List.forall_mem_cons.mpr ⟨lm_330, (List.forall_mem_cons.mpr ⟨lm_331, (List.forall_mem_cons.mpr ⟨lm_325, (List.forall_mem_cons.mpr ⟨lm_1962, (List.forall_mem_cons.mpr ⟨lm_1961, (List.forall_mem_cons.mpr ⟨lm_1960, (List.forall_mem_cons.mpr ⟨lm_414, (List.forall_mem_cons.mpr ⟨lm_1959, (List.forall_mem_cons.mpr ⟨lm_1958, (List.forall_mem_cons.mpr ⟨lm_1957, (fun _ h => absurd h List.not_mem_nil)⟩)⟩)⟩)⟩)⟩)⟩)⟩)⟩)⟩)⟩)⟩)⟩)⟩)⟩)⟩)⟩)⟩)⟩)⟩)⟩)⟩)⟩)⟩)⟩)
theorem lm_1972 : Cond.methodLink RX3 3 objectInit ∈ lw_tbl := List.mem_append_right _ (tin_2 (List.mem_of_getElem? (i := 132) rfl))
theorem lm_1973 : Cond.code yX3_init cX3_init 3 none ∈ lw_tbl := List.mem_append_right _ (tin_2 (List.mem_of_getElem? (i := 131) rfl))
theorem lm_1974 : Cond.instanceMethod yX3_init ∈ lw_tbl := List.mem_append_right _ (tin_2 (List.mem_of_getElem? (i := 130) rfl))
theorem lm_1975 : Cond.methodLink RX11 79 yX3_init ∈ lw_tbl := List.mem_append_right _ (tin_2 (List.mem_of_getElem? (i := 129) rfl))
theorem lm_1976 : Cond.arrayClass .long ∈ lw_tbl := List.mem_append_right _ (tin_2 (List.mem_of_getElem? (i := 126) rfl))
theorem lm_1977 : Cond.methodLink RX0 5 objectInit ∈ lw_tbl := List.mem_append_right _ (tin_2 (List.mem_of_getElem? (i := 82) rfl))
theorem lm_1978 : Cond.code yX0_init cX0_init 3 none ∈ lw_tbl := List.mem_append_right _ (tin_2 (List.mem_of_getElem? (i := 81) rfl))
theorem lm_1979 : Cond.instanceMethod yX0_init ∈ lw_tbl := List.mem_append_right _ (tin_2 (List.mem_of_getElem? (i := 80) rfl))
theorem lm_1980 : Cond.methodLink RX11 72 yX0_init ∈ lw_tbl := List.mem_append_right _ (tin_2 (List.mem_of_getElem? (i := 79) rfl))
theorem lm_1981 : Cond.methodLink RX5 3 objectInit ∈ lw_tbl := List.mem_append_right _ (tin_2 (List.mem_of_getElem? (i := 44) rfl))
theorem lr_wsX11_init_r5 : ∀ w ∈ wsX11_init_r5, w ∈ lw_tbl := (List.forall_mem_cons.mpr ⟨lm_1981, (List.forall_mem_cons.mpr ⟨lm_611, (List.forall_mem_cons.mpr ⟨lm_628, (List.forall_mem_cons.mpr ⟨lm_678, (List.forall_mem_cons.mpr ⟨lm_600, (List.forall_mem_cons.mpr ⟨lm_602, (List.forall_mem_cons.mpr ⟨lm_1980, (List.forall_mem_cons.mpr ⟨lm_1979, (List.forall_mem_cons.mpr ⟨lm_1978, (List.forall_mem_cons.mpr ⟨lm_1977, (List.forall_mem_cons.mpr ⟨lm_715, (List.forall_mem_cons.mpr ⟨lm_714, (List.forall_mem_cons.mpr ⟨lm_1976, (List.forall_mem_cons.mpr ⟨lm_894, (List.forall_mem_cons.mpr ⟨lm_901, (List.forall_mem_cons.mpr ⟨lm_773, (List.forall_mem_cons.mpr ⟨lm_782, (List.forall_mem_cons.mpr ⟨lm_787, (List.forall_mem_cons.mpr ⟨lm_696, (List.forall_mem_cons.mpr ⟨lm_698, (List.forall_mem_cons.mpr ⟨lm_1975, (List.forall_mem_cons.mpr ⟨lm_1974, (List.forall_mem_cons.mpr ⟨lm_1973, (List.forall_mem_cons.mpr ⟨lm_1972, (fun _ h => absurd h List.not_mem_nil)⟩)⟩)⟩)⟩)⟩)⟩)⟩)⟩)⟩)⟩)⟩)⟩)⟩)⟩)⟩)⟩)⟩)⟩)⟩)⟩)⟩)⟩)⟩)⟩)
theorem lm_1982 : Cond.methodLink RX10 3 objectInit ∈ lw_tbl := List.mem_append_right _ (tin_2 (List.mem_of_getElem? (i := 205) rfl))
theorem lm_1983 : Cond.code yX10_init cX10_init 1 none ∈ lw_tbl := List.mem_append_right _ (tin_2 (List.mem_of_getElem? (i := 204) rfl))
theorem lm_1984 : Cond.instanceMethod yX10_init ∈ lw_tbl := List.mem_append_right _ (tin_2 (List.mem_of_getElem? (i := 203) rfl))
theorem lm_1985 : Cond.classLink RX1 22 RX4 ∈ lw_tbl := List.mem_append_right _ (tin_2 (List.mem_of_getElem? (i := 185) rfl))
theorem lm_1986 : Cond.classLink RX1 7 RX9 ∈ lw_tbl := List.mem_append_right _ (tin_2 (List.mem_of_getElem? (i := 183) rfl))
theorem lm_1987 : Cond.methodLink RX1 1 objectInit ∈ lw_tbl := List.mem_append_right _ (tin_2 (List.mem_of_getElem? (i := 182) rfl))
theorem lm_1988 : Cond.code yX1_init cX1_init 1 none ∈ lw_tbl := List.mem_append_right _ (tin_2 (List.mem_of_getElem? (i := 181) rfl))
theorem lm_1989 : Cond.instanceMethod yX1_init ∈ lw_tbl := List.mem_append_right _ (tin_2 (List.mem_of_getElem? (i := 180) rfl))
theorem lm_1990 : Cond.methodLink RX8 3 objectInit ∈ lw_tbl := List.mem_append_right _ (tin_2 (List.mem_of_getElem? (i := 145) rfl))
theorem lm_1991 : Cond.code yX8_init cX8_init 3 none ∈ lw_tbl := List.mem_append_right _ (tin_2 (List.mem_of_getElem? (i := 144) rfl))
theorem lm_1992 : Cond.instanceMethod yX8_init ∈ lw_tbl := List.mem_append_right _ (tin_2 (List.mem_of_getElem? (i := 143) rfl))
theorem lm_1993 : Cond.methodLink RX11 86 yX8_init ∈ lw_tbl := List.mem_append_right _ (tin_2 (List.mem_of_getElem? (i := 142) rfl))
theorem lr_wsX11_init_r6 : ∀ w ∈ wsX11_init_r6, w ∈ lw_tbl := (List.forall_mem_cons.mpr ⟨lm_742, (List.forall_mem_cons.mpr ⟨lm_744, (List.forall_mem_cons.mpr ⟨lm_1993, (List.forall_mem_cons.mpr ⟨lm_1992, (List.forall_mem_cons.mpr ⟨lm_1991, (List.forall_mem_cons.mpr ⟨lm_1990, (List.forall_mem_cons.mpr ⟨lm_806, (List.forall_mem_cons.mpr ⟨lm_852, (List.forall_mem_cons.mpr ⟨lm_827, (List.forall_mem_cons.mpr ⟨lm_840, (List.forall_mem_cons.mpr ⟨lm_804, (List.forall_mem_cons.mpr ⟨lm_813, (List.forall_mem_cons.mpr ⟨lm_1989, (List.forall_mem_cons.mpr ⟨lm_1988, (List.forall_mem_cons.mpr ⟨lm_1987, (List.forall_mem_cons.mpr ⟨lm_1986, (List.forall_mem_cons.mpr ⟨lm_963, (List.forall_mem_cons.mpr ⟨lm_968, (List.forall_mem_cons.mpr ⟨lm_1985, (List.forall_mem_cons.mpr ⟨lm_970, (List.forall_mem_cons.mpr ⟨lm_1984, (List.forall_mem_cons.mpr ⟨lm_1983, (List.forall_mem_cons.mpr ⟨lm_1982, (List.forall_mem_cons.mpr ⟨lm_532, (fun _ h => absurd h List.not_mem_nil)⟩)⟩)⟩)⟩)⟩)⟩)⟩)⟩)⟩)⟩)⟩)⟩)⟩)⟩)⟩)⟩)⟩)⟩)⟩)⟩)⟩)⟩)⟩)⟩)
theorem lr_wsX11_init_r7 : ∀ w ∈ wsX11_init_r7, w ∈ lw_tbl := (List.forall_mem_cons.mpr ⟨lm_533, (fun _ h => absurd h List.not_mem_nil)⟩)
theorem lr_wsX11_init : ∀ w ∈ wsX11_init, w ∈ lw_tbl := (List.forall_mem_cons.mpr ⟨lm_1923, (List.forall_mem_append.mpr ⟨(List.forall_mem_append.mpr ⟨(List.forall_mem_append.mpr ⟨(List.forall_mem_append.mpr ⟨(List.forall_mem_append.mpr ⟨(List.forall_mem_append.mpr ⟨(List.forall_mem_append.mpr ⟨(List.forall_mem_append.mpr ⟨(List.forall_mem_append.mpr ⟨(List.forall_mem_append.mpr ⟨(List.forall_mem_append.mpr ⟨(List.forall_mem_append.mpr ⟨(List.forall_mem_append.mpr ⟨lr_wsX11_init_r1, (List.forall_mem_append.mpr ⟨lr_wsX11_init_r2, (List.forall_mem_append.mpr ⟨lr_wsX11_init_r3, (List.forall_mem_append.mpr ⟨lr_wsX11_init_r4, (List.forall_mem_append.mpr ⟨lr_wsX11_init_r5, (List.forall_mem_append.mpr ⟨lr_wsX11_init_r6, lr_wsX11_init_r7⟩)⟩)⟩)⟩)⟩)⟩), lr_wsX110⟩), lr_wsX90⟩), lr_wsX60⟩), lr_wsX70⟩), lr_wsX40⟩), lr_wsX50⟩), lr_wsX00⟩), lr_wsX30⟩), lr_wsX80⟩), lr_wsX10⟩), lr_wsX100⟩), lr_wsX20⟩)⟩)
theorem gw_X11_init : GoodIn lw_tbl wsX11_init := goodIn_sub lr_wsX11_init (by decide +kernel)
theorem lm_1994 : Cond.code yX12_init cX12_init 1 none ∈ lw_tbl := List.mem_append_right _ (tin_8 (List.mem_of_getElem? (i := 56) rfl))
theorem lm_1995 : Cond.arrayClass .boolean ∈ lw_tbl := List.mem_append_right _ (tin_8 (List.mem_of_getElem? (i := 191) rfl))
theorem lm_1996 : Cond.methodLink RX12 1 objectInit ∈ lw_tbl := List.mem_append_right _ (tin_8 (List.mem_of_getElem? (i := 57) rfl))
theorem lr_wsX12_init_r1 : ∀ w ∈ wsX12_init_r1, w ∈ lw_tbl := (List.forall_mem_cons.mpr ⟨lm_1996, (List.forall_mem_cons.mpr ⟨lm_1936, (List.forall_mem_cons.mpr ⟨lm_1935, (List.forall_mem_cons.mpr ⟨lm_1925, (List.forall_mem_cons.mpr ⟨lm_10, (List.forall_mem_cons.mpr ⟨lm_1197, (List.forall_mem_cons.mpr ⟨lm_301, (List.forall_mem_cons.mpr ⟨lm_1995, (List.forall_mem_cons.mpr ⟨lm_300, (List.forall_mem_cons.mpr ⟨lm_2, (List.forall_mem_cons.mpr ⟨lm_8, (List.forall_mem_cons.mpr ⟨lm_43, (List.forall_mem_cons.mpr ⟨lm_116, (List.forall_mem_cons.mpr ⟨lm_199, (List.forall_mem_cons.mpr ⟨lm_213, (List.forall_mem_cons.mpr ⟨lm_241, (List.forall_mem_cons.mpr ⟨lm_247, (List.forall_mem_cons.mpr ⟨lm_258, (List.forall_mem_cons.mpr ⟨lm_264, (List.forall_mem_cons.mpr ⟨lm_266, (List.forall_mem_cons.mpr ⟨lm_280, (List.forall_mem_cons.mpr ⟨lm_286, (List.forall_mem_cons.mpr ⟨lm_157, (List.forall_mem_cons.mpr ⟨lm_170, (fun _ h => absurd h List.not_mem_nil)⟩)⟩)⟩)⟩)⟩)⟩)⟩)⟩)⟩)⟩)⟩)⟩)⟩)⟩)⟩)⟩)⟩)⟩)⟩)⟩)⟩)⟩)⟩)⟩)
theorem lr_wsX12_init_r2 : ∀ w ∈ wsX12_init_r2, w ∈ lw_tbl := (List.forall_mem_cons.mpr ⟨lm_1976, (List.forall_mem_cons.mpr ⟨lm_175, (fun _ h => absurd h List.not_mem_nil)⟩)⟩)
theorem lr_wsX12_init : ∀ w ∈ wsX12_init, w ∈ lw_tbl := (List.forall_mem_cons.mpr ⟨lm_1994, (List.forall_mem_append.mpr ⟨(List.forall_mem_append.mpr ⟨lr_wsX12_init_r1, lr_wsX12_init_r2⟩), lr_wsX120⟩)⟩)
theorem gw_X12_init : GoodIn lw_tbl wsX12_init := goodIn_sub lr_wsX12_init (by decide +kernel)
theorem lm_1997 : Cond.classLink RL 8 RX11 ∈ lw_tbl := List.mem_append_right _ (tin_1 (List.mem_of_getElem? (i := 29) rfl))
theorem lm_1998 : Cond.instantiable RX11 14 ∈ lw_tbl := List.mem_append_right _ (tin_1 (List.mem_of_getElem? (i := 30) rfl))
theorem lm_1999 : Cond.methodLink RL 117 yX11_init ∈ lw_tbl := List.mem_append_right _ (tin_1 (List.mem_of_getElem? (i := 31) rfl))
theorem lm_2000 : Cond.instanceMethod yX11_init ∈ lw_tbl := List.mem_append_right _ (tin_1 (List.mem_of_getElem? (i := 32) rfl))
theorem lm_2001 : Cond.classLink RL 118 RX12 ∈ lw_tbl := List.mem_append_right _ (tin_8 (List.mem_of_getElem? (i := 52) rfl))
theorem lm_2002 : Cond.instantiable RX12 44 ∈ lw_tbl := List.mem_append_right _ (tin_8 (List.mem_of_getElem? (i := 53) rfl))
theorem lm_2003 : Cond.methodLink RL 120 yX12_init ∈ lw_tbl := List.mem_append_right _ (tin_8 (List.mem_of_getElem? (i := 54) rfl))
theorem lm_2004 : Cond.instanceMethod yX12_init ∈ lw_tbl := List.mem_append_right _ (tin_8 (List.mem_of_getElem? (i := 55) rfl))
theorem lm_2005 : Cond.methodLinkNest "OddTouch" 15 ⟨"OddTouch$Town", "<init>", "()V"⟩ "OddTouch" ∈ lw_tbl := List.mem_append_right _ (tin_1 (List.mem_of_getElem? (i := 39) rfl))
theorem lm_2006 : Cond.methodLinkNest "OddTouch$Town" 47 ⟨"OddTouch$Law", "<init>", "()V"⟩ "OddTouch" ∈ lw_tbl := List.mem_append_right _ (tin_1 (List.mem_of_getElem? (i := 45) rfl))
theorem lm_2007 : Cond.methodLinkNest "OddTouch$Reader" 11 ⟨"OddTouch$Town", "<init>", "()V"⟩ "OddTouch" ∈ lw_tbl := List.mem_append_right _ (tin_1 (List.mem_of_getElem? (i := 187) rfl))
theorem lm_2008 : Cond.methodLinkNest "OddTouch" 40 ⟨"OddTouch$Past", "<init>", "()V"⟩ "OddTouch" ∈ lw_tbl := List.mem_append_right _ (tin_2 (List.mem_of_getElem? (i := 20) rfl))
theorem lm_2009 : Cond.methodLinkNest "OddTouch" 91 ⟨"OddTouch$Image", "<init>", "()V"⟩ "OddTouch" ∈ lw_tbl := List.mem_append_right _ (tin_2 (List.mem_of_getElem? (i := 179) rfl))
theorem lm_2010 : Cond.methodLinkNest "OddTouch$Image" 9 ⟨"OddTouch$Town", "<init>", "()V"⟩ "OddTouch" ∈ lw_tbl := List.mem_append_right _ (tin_2 (List.mem_of_getElem? (i := 184) rfl))
theorem lm_2011 : Cond.methodLinkNest "OddTouch$Image" 24 ⟨"OddTouch$Past", "<init>", "()V"⟩ "OddTouch" ∈ lw_tbl := List.mem_append_right _ (tin_2 (List.mem_of_getElem? (i := 186) rfl))
theorem lm_2012 : Cond.methodLinkNest "OddTouch" 92 ⟨"OddTouch$Tray", "<init>", "()V"⟩ "OddTouch" ∈ lw_tbl := List.mem_append_right _ (tin_2 (List.mem_of_getElem? (i := 202) rfl))
theorem lm_2013 : Cond.methodLinkNest "OddTouch$Scene" 82 ⟨"OddTouch", "isIn", "(II)Z"⟩ "OddTouch" ∈ lw_tbl := List.mem_append_right _ (tin_3 (List.mem_of_getElem? (i := 46) rfl))
theorem lm_2014 : Cond.methodLinkNest "OddTouch$Town" 97 ⟨"OddTouch", "isIn", "(II)Z"⟩ "OddTouch" ∈ lw_tbl := List.mem_append_right _ (tin_3 (List.mem_of_getElem? (i := 87) rfl))
theorem lm_2015 : Cond.methodLinkNest "OddTouch$Placer" 46 ⟨"OddTouch", "isIn", "(II)Z"⟩ "OddTouch" ∈ lw_tbl := List.mem_append_right _ (tin_3 (List.mem_of_getElem? (i := 186) rfl))
theorem lm_2016 : Cond.methodLinkNest "OddTouch$Reader" 26 ⟨"OddTouch", "keptWithin", "(III)I"⟩ "OddTouch" ∈ lw_tbl := List.mem_append_right _ (tin_4 (List.mem_of_getElem? (i := 105) rfl))
theorem lm_2017 : Cond.methodLinkNest "OddTouch$Reader" 100 ⟨"OddTouch", "isIn", "(II)Z"⟩ "OddTouch" ∈ lw_tbl := List.mem_append_right _ (tin_5 (List.mem_of_getElem? (i := 20) rfl))
theorem lm_2018 : Cond.methodLinkNest "OddTouch$Town" 101 ⟨"OddTouch", "keptWithin", "(III)I"⟩ "OddTouch" ∈ lw_tbl := List.mem_append_right _ (tin_5 (List.mem_of_getElem? (i := 25) rfl))
theorem lm_2019 : Cond.methodLinkNest "OddTouch$Law" 55 ⟨"OddTouch", "keptWithin", "(III)I"⟩ "OddTouch" ∈ lw_tbl := List.mem_append_right _ (tin_5 (List.mem_of_getElem? (i := 196) rfl))
theorem lm_2020 : Cond.methodLinkNest "OddTouch$Scene" 134 ⟨"OddTouch", "keptWithin", "(III)I"⟩ "OddTouch" ∈ lw_tbl := List.mem_append_right _ (tin_6 (List.mem_of_getElem? (i := 50) rfl))
theorem lm_2021 : Cond.methodLinkNest "OddTouch$Changer" 52 ⟨"OddTouch", "isIn", "(II)Z"⟩ "OddTouch" ∈ lw_tbl := List.mem_append_right _ (tin_7 (List.mem_of_getElem? (i := 16) rfl))
theorem lm_2022 : Cond.methodLinkNest "OddTouch$Changer" 171 ⟨"OddTouch", "keptWithin", "(III)I"⟩ "OddTouch" ∈ lw_tbl := List.mem_append_right _ (tin_7 (List.mem_of_getElem? (i := 69) rfl))
theorem lm_2023 : Cond.methodLinkNest "OddTouch$Table" 47 ⟨"OddTouch", "isIn", "(II)Z"⟩ "OddTouch" ∈ lw_tbl := List.mem_append_right _ (tin_7 (List.mem_of_getElem? (i := 95) rfl))
theorem lm_2024 : Cond.methodLinkNest "OddTouch$Tray" 22 ⟨"OddTouch", "keptWithin", "(III)I"⟩ "OddTouch" ∈ lw_tbl := List.mem_append_right _ (tin_7 (List.mem_of_getElem? (i := 216) rfl))
theorem lm_2025 : Cond.stringRef "OddTouch" 103 "the tape has not so many bytes" ∈ lw_tbl := List.mem_append_right _ (tin_4 (List.mem_of_getElem? (i := 75) rfl))
theorem lm_2026 : Cond.stringRef "OddTouch$Reader" 67 ";+-*()[]=<>" ∈ lw_tbl := List.mem_append_right _ (tin_4 (List.mem_of_getElem? (i := 127) rfl))
theorem lm_2027 : Cond.stringRef "OddTouch$Reader" 104 "places" ∈ lw_tbl := List.mem_append_right _ (tin_4 (List.mem_of_getElem? (i := 214) rfl))
theorem lm_2028 : Cond.stringRef "OddTouch$Reader" 127 "touch" ∈ lw_tbl := List.mem_append_right _ (tin_5 (List.mem_of_getElem? (i := 42) rfl))
theorem lm_2029 : Cond.stringRef "OddTouch$Reader" 175 "wall" ∈ lw_tbl := List.mem_append_right _ (tin_5 (List.mem_of_getElem? (i := 51) rfl))
theorem lm_2030 : Cond.stringRef "OddTouch$Reader" 132 "thing" ∈ lw_tbl := List.mem_append_right _ (tin_5 (List.mem_of_getElem? (i := 60) rfl))
theorem lm_2031 : Cond.stringRef "OddTouch$Reader" 187 "count" ∈ lw_tbl := List.mem_append_right _ (tin_5 (List.mem_of_getElem? (i := 69) rfl))
theorem lm_2032 : Cond.stringRef "OddTouch$Reader" 189 "kind" ∈ lw_tbl := List.mem_append_right _ (tin_5 (List.mem_of_getElem? (i := 70) rfl))
theorem lm_2033 : Cond.stringRef "OddTouch$Reader" 191 "slow" ∈ lw_tbl := List.mem_append_right _ (tin_5 (List.mem_of_getElem? (i := 71) rfl))
theorem lm_2034 : Cond.stringRef "OddTouch$Reader" 193 "stays" ∈ lw_tbl := List.mem_append_right _ (tin_5 (List.mem_of_getElem? (i := 72) rfl))
theorem lm_2035 : Cond.stringRef "OddTouch$Reader" 137 "event" ∈ lw_tbl := List.mem_append_right _ (tin_5 (List.mem_of_getElem? (i := 73) rfl))
theorem lm_2036 : Cond.stringRef "OddTouch$Reader" 211 "less" ∈ lw_tbl := List.mem_append_right _ (tin_5 (List.mem_of_getElem? (i := 78) rfl))
theorem lm_2037 : Cond.stringRef "OddTouch$Reader" 213 "more" ∈ lw_tbl := List.mem_append_right _ (tin_5 (List.mem_of_getElem? (i := 79) rfl))
theorem lm_2038 : Cond.stringRef "OddTouch$Reader" 142 "zero" ∈ lw_tbl := List.mem_append_right _ (tin_5 (List.mem_of_getElem? (i := 80) rfl))
theorem lm_2039 : Cond.stringRef "OddTouch$Reader" 223 "even" ∈ lw_tbl := List.mem_append_right _ (tin_5 (List.mem_of_getElem? (i := 85) rfl))
theorem lm_2040 : Cond.stringRef "OddTouch$Reader" 228 "odd" ∈ lw_tbl := List.mem_append_right _ (tin_5 (List.mem_of_getElem? (i := 86) rfl))
theorem lm_2041 : Cond.stringRef "OddTouch$Reader" 230 "both" ∈ lw_tbl := List.mem_append_right _ (tin_5 (List.mem_of_getElem? (i := 87) rfl))
theorem lm_2042 : Cond.stringRef "OddTouch$Reader" 232 "neither" ∈ lw_tbl := List.mem_append_right _ (tin_5 (List.mem_of_getElem? (i := 88) rfl))
theorem lm_2043 : Cond.stringRef "OddTouch$Reader" 150 "law" ∈ lw_tbl := List.mem_append_right _ (tin_5 (List.mem_of_getElem? (i := 89) rfl))
theorem lm_2044 : Cond.stringRef "OddTouch$Reader" 247 "not" ∈ lw_tbl := List.mem_append_right _ (tin_5 (List.mem_of_getElem? (i := 103) rfl))
theorem lm_2045 : Cond.stringRef "OddTouch$Reader" 271 "a" ∈ lw_tbl := List.mem_append_right _ (tin_5 (List.mem_of_getElem? (i := 128) rfl))
theorem lm_2046 : Cond.stringRef "OddTouch$Reader" 273 "b" ∈ lw_tbl := List.mem_append_right _ (tin_5 (List.mem_of_getElem? (i := 129) rfl))
theorem lm_2047 : Cond.stringRef "OddTouch$Reader" 275 "odda" ∈ lw_tbl := List.mem_append_right _ (tin_5 (List.mem_of_getElem? (i := 130) rfl))
theorem lm_2048 : Cond.stringRef "OddTouch$Reader" 277 "oddb" ∈ lw_tbl := List.mem_append_right _ (tin_5 (List.mem_of_getElem? (i := 131) rfl))
theorem lm_2049 : Cond.stringRef "OddTouch$Reader" 279 "evena" ∈ lw_tbl := List.mem_append_right _ (tin_5 (List.mem_of_getElem? (i := 132) rfl))
theorem lm_2050 : Cond.stringRef "OddTouch$Reader" 281 "evenb" ∈ lw_tbl := List.mem_append_right _ (tin_5 (List.mem_of_getElem? (i := 133) rfl))
theorem lm_2051 : Cond.stringRef "OddTouch$Reader" 283 "alike" ∈ lw_tbl := List.mem_append_right _ (tin_5 (List.mem_of_getElem? (i := 134) rfl))
theorem lm_2052 : Cond.stringRef "OddTouch$Reader" 245 "and" ∈ lw_tbl := List.mem_append_right _ (tin_5 (List.mem_of_getElem? (i := 143) rfl))
theorem lm_2053 : Cond.stringRef "OddTouch$Reader" 237 "or" ∈ lw_tbl := List.mem_append_right _ (tin_5 (List.mem_of_getElem? (i := 144) rfl))
theorem lm_2054 : Cond.stringRef "OddTouch" 205 "no such thing" ∈ lw_tbl := List.mem_append_right _ (tin_5 (List.mem_of_getElem? (i := 234) rfl))
theorem lm_2055 : Cond.stringRef "OddTouch" 167 "a thing has no such what" ∈ lw_tbl := List.mem_append_right _ (tin_6 (List.mem_of_getElem? (i := 5) rfl))
theorem lm_2056 : Cond.stringRef "OddTouch" 211 "no such place" ∈ lw_tbl := List.mem_append_right _ (tin_6 (List.mem_of_getElem? (i := 18) rfl))
theorem lm_2057 : Cond.stringRef "OddTouch" 182 "a place has no such what" ∈ lw_tbl := List.mem_append_right _ (tin_6 (List.mem_of_getElem? (i := 20) rfl))
theorem lm_2058 : Cond.stringRef "OddTouch" 187 "both are one" ∈ lw_tbl := List.mem_append_right _ (tin_6 (List.mem_of_getElem? (i := 36) rfl))
theorem lm_2059 : Cond.stringRef "OddTouch" 215 "by too much" ∈ lw_tbl := List.mem_append_right _ (tin_6 (List.mem_of_getElem? (i := 45) rfl))
theorem lm_2060 : Cond.stringRef "OddTouch" 231 "not so many days" ∈ lw_tbl := List.mem_append_right _ (tin_6 (List.mem_of_getElem? (i := 58) rfl))
theorem lm_2061 : Cond.stringRef "OddTouch" 242 "not so many deeds" ∈ lw_tbl := List.mem_append_right _ (tin_6 (List.mem_of_getElem? (i := 71) rfl))
theorem lm_2062 : Cond.stringRef "OddTouch" 470 "no such tray" ∈ lw_tbl := List.mem_append_right _ (tin_6 (List.mem_of_getElem? (i := 99) rfl))
theorem lm_2063 : Cond.stringRef "OddTouch" 472 "the tray is missing" ∈ lw_tbl := List.mem_append_right _ (tin_6 (List.mem_of_getElem? (i := 109) rfl))
theorem lm_2064 : Cond.stringRef "OddTouch" 213 "no such what" ∈ lw_tbl := List.mem_append_right _ (tin_6 (List.mem_of_getElem? (i := 119) rfl))
theorem lm_2065 : Cond.stringRef "OddTouch" 284 "not so many times" ∈ lw_tbl := List.mem_append_right _ (tin_6 (List.mem_of_getElem? (i := 159) rfl))
theorem lm_2066 : Cond.stringRef "OddTouch" 291 "no things" ∈ lw_tbl := List.mem_append_right _ (tin_6 (List.mem_of_getElem? (i := 160) rfl))
theorem lm_2067 : Cond.stringRef "OddTouch" 322 "no such placing" ∈ lw_tbl := List.mem_append_right _ (tin_6 (List.mem_of_getElem? (i := 194) rfl))
theorem lm_2068 : Cond.stringRef "OddTouch" 345 "no placing" ∈ lw_tbl := List.mem_append_right _ (tin_6 (List.mem_of_getElem? (i := 232) rfl))
theorem lm_2069 : Cond.stringRef "OddTouch" 369 "no such event" ∈ lw_tbl := List.mem_append_right _ (tin_7 (List.mem_of_getElem? (i := 77) rfl))
theorem lm_2070 : Cond.stringRef "OddTouch" 380 "an event has no such what" ∈ lw_tbl := List.mem_append_right _ (tin_7 (List.mem_of_getElem? (i := 78) rfl))
theorem lm_2071 : Cond.stringRef "OddTouch" 417 "numbers that are no row of things" ∈ lw_tbl := List.mem_append_right _ (tin_7 (List.mem_of_getElem? (i := 96) rfl))
theorem lm_2072 : Cond.stringRef "OddTouch" 390 "a set with others than things" ∈ lw_tbl := List.mem_append_right _ (tin_7 (List.mem_of_getElem? (i := 113) rfl))
theorem lm_2073 : Cond.stringRef "OddTouch" 405 "no table has so many seats" ∈ lw_tbl := List.mem_append_right _ (tin_7 (List.mem_of_getElem? (i := 139) rfl))
theorem lm_2074 : Cond.stringRef "OddTouch" 419 "another thing lies there" ∈ lw_tbl := List.mem_append_right _ (tin_7 (List.mem_of_getElem? (i := 159) rfl))
theorem lm_2075 : Cond.stringRef "OddTouch" 444 "numbers that nobody sees" ∈ lw_tbl := List.mem_append_right _ (tin_7 (List.mem_of_getElem? (i := 178) rfl))
theorem lm_2076 : Cond.stringRef "OddTouch" 436 "no such step" ∈ lw_tbl := List.mem_append_right _ (tin_7 (List.mem_of_getElem? (i := 202) rfl))
theorem lm_2077 : Cond.stringRef "OddTouch" 449 "no such sort" ∈ lw_tbl := List.mem_append_right _ (tin_7 (List.mem_of_getElem? (i := 210) rfl))
theorem lm_2078 : Cond.stringRef "OddTouch" 451 "not so many" ∈ lw_tbl := List.mem_append_right _ (tin_7 (List.mem_of_getElem? (i := 211) rfl))
theorem lm_2079 : Cond.stringRef "OddTouch" 458 "no such place in the tray" ∈ lw_tbl := List.mem_append_right _ (tin_7 (List.mem_of_getElem? (i := 234) rfl))
theorem lm_2080 : Cond.stringRef "OddTouch" 490 "no such image" ∈ lw_tbl := List.mem_append_right _ (tin_8 (List.mem_of_getElem? (i := 27) rfl))
theorem lm_2081 : Cond.stringRef "OddTouch" 485 "no image was made" ∈ lw_tbl := List.mem_append_right _ (tin_8 (List.mem_of_getElem? (i := 46) rfl))
theorem lm_2082 : Cond.stringRef "OddTouchModel" 265 "places" ∈ lw_tbl := List.mem_append_right _ (tin_8 (List.mem_of_getElem? (i := 228) rfl))
theorem lm_2083 : Cond.stringRef "OddTouchModel" 239 "touch" ∈ lw_tbl := List.mem_append_right _ (tin_9 (List.mem_of_getElem? (i := 23) rfl))
theorem lm_2084 : Cond.stringRef "OddTouchModel" 194 "wall" ∈ lw_tbl := List.mem_append_right _ (tin_9 (List.mem_of_getElem? (i := 33) rfl))
theorem lm_2085 : Cond.stringRef "OddTouchModel" 225 "thing" ∈ lw_tbl := List.mem_append_right _ (tin_9 (List.mem_of_getElem? (i := 34) rfl))
theorem lm_2086 : Cond.stringRef "OddTouchModel" 213 "count" ∈ lw_tbl := List.mem_append_right _ (tin_9 (List.mem_of_getElem? (i := 42) rfl))
theorem lm_2087 : Cond.stringRef "OddTouchModel" 219 "kind" ∈ lw_tbl := List.mem_append_right _ (tin_9 (List.mem_of_getElem? (i := 43) rfl))
theorem lm_2088 : Cond.stringRef "OddTouchModel" 221 "slow" ∈ lw_tbl := List.mem_append_right _ (tin_9 (List.mem_of_getElem? (i := 44) rfl))
theorem lm_2089 : Cond.stringRef "OddTouchModel" 223 "stays" ∈ lw_tbl := List.mem_append_right _ (tin_9 (List.mem_of_getElem? (i := 45) rfl))
theorem lm_2090 : Cond.stringRef "OddTouchModel" 247 "event" ∈ lw_tbl := List.mem_append_right _ (tin_9 (List.mem_of_getElem? (i := 46) rfl))
theorem lm_2091 : Cond.stringRef "OddTouchModel" 227 "less" ∈ lw_tbl := List.mem_append_right _ (tin_9 (List.mem_of_getElem? (i := 51) rfl))
theorem lm_2092 : Cond.stringRef "OddTouchModel" 229 "more" ∈ lw_tbl := List.mem_append_right _ (tin_9 (List.mem_of_getElem? (i := 52) rfl))
theorem lm_2093 : Cond.stringRef "OddTouchModel" 252 "zero" ∈ lw_tbl := List.mem_append_right _ (tin_9 (List.mem_of_getElem? (i := 53) rfl))
theorem lm_2094 : Cond.stringRef "OddTouchModel" 231 "even" ∈ lw_tbl := List.mem_append_right _ (tin_9 (List.mem_of_getElem? (i := 58) rfl))
theorem lm_2095 : Cond.stringRef "OddTouchModel" 233 "odd" ∈ lw_tbl := List.mem_append_right _ (tin_9 (List.mem_of_getElem? (i := 59) rfl))
theorem lm_2096 : Cond.stringRef "OddTouchModel" 235 "both" ∈ lw_tbl := List.mem_append_right _ (tin_9 (List.mem_of_getElem? (i := 60) rfl))
theorem lm_2097 : Cond.stringRef "OddTouchModel" 237 "neither" ∈ lw_tbl := List.mem_append_right _ (tin_9 (List.mem_of_getElem? (i := 61) rfl))
theorem lm_2098 : Cond.stringRef "OddTouchModel" 257 "law" ∈ lw_tbl := List.mem_append_right _ (tin_9 (List.mem_of_getElem? (i := 62) rfl))
theorem lm_2099 : Cond.stringRef "OddTouchModel" 157 "not" ∈ lw_tbl := List.mem_append_right _ (tin_9 (List.mem_of_getElem? (i := 75) rfl))
theorem lm_2100 : Cond.stringRef "OddTouchModel" 180 "a" ∈ lw_tbl := List.mem_append_right _ (tin_9 (List.mem_of_getElem? (i := 104) rfl))
theorem lm_2101 : Cond.stringRef "OddTouchModel" 182 "b" ∈ lw_tbl := List.mem_append_right _ (tin_9 (List.mem_of_getElem? (i := 105) rfl))
theorem lm_2102 : Cond.stringRef "OddTouchModel" 184 "odda" ∈ lw_tbl := List.mem_append_right _ (tin_9 (List.mem_of_getElem? (i := 106) rfl))
theorem lm_2103 : Cond.stringRef "OddTouchModel" 186 "oddb" ∈ lw_tbl := List.mem_append_right _ (tin_9 (List.mem_of_getElem? (i := 107) rfl))
theorem lm_2104 : Cond.stringRef "OddTouchModel" 188 "evena" ∈ lw_tbl := List.mem_append_right _ (tin_9 (List.mem_of_getElem? (i := 108) rfl))
theorem lm_2105 : Cond.stringRef "OddTouchModel" 190 "evenb" ∈ lw_tbl := List.mem_append_right _ (tin_9 (List.mem_of_getElem? (i := 109) rfl))
theorem lm_2106 : Cond.stringRef "OddTouchModel" 192 "alike" ∈ lw_tbl := List.mem_append_right _ (tin_9 (List.mem_of_getElem? (i := 110) rfl))
theorem lm_2107 : Cond.stringRef "OddTouchModel" 155 "and" ∈ lw_tbl := List.mem_append_right _ (tin_9 (List.mem_of_getElem? (i := 111) rfl))
theorem lm_2108 : Cond.stringRef "OddTouchModel" 147 "or" ∈ lw_tbl := List.mem_append_right _ (tin_9 (List.mem_of_getElem? (i := 112) rfl))
theorem lm_2109 : Cond.castable "java/lang/IllegalArgumentException" "java/lang/IllegalArgumentException" ∈ lw_tbl := List.mem_append_right _ (tin_4 (List.mem_of_getElem? (i := 35) rfl))
theorem lm_2110 : Cond.castable "java/util/NoSuchElementException" "java/util/NoSuchElementException" ∈ lw_tbl := List.mem_append_right _ (tin_5 (List.mem_of_getElem? (i := 227) rfl))
theorem lm_2111 : Cond.castable "java/lang/IllegalStateException" "java/lang/IllegalStateException" ∈ lw_tbl := List.mem_append_right _ (tin_6 (List.mem_of_getElem? (i := 102) rfl))
theorem lm_2112 : Cond.castable "java/lang/IndexOutOfBoundsException" "java/lang/IndexOutOfBoundsException" ∈ lw_tbl := List.mem_append_right _ (tin_7 (List.mem_of_getElem? (i := 227) rfl))
theorem lm_2113 : Cond.declares (Bundle.initS "java/lang/RuntimeException") ∈ lw_tbl := List.mem_append_right _ (tin_4 (List.mem_of_getElem? (i := 37) rfl))
theorem lm_2114 : Cond.declares (Bundle.initS "java/lang/Exception") ∈ lw_tbl := List.mem_append_right _ (tin_4 (List.mem_of_getElem? (i := 39) rfl))
theorem lm_2115 : Cond.declares (Bundle.initS "java/lang/Throwable") ∈ lw_tbl := List.mem_append_right _ (tin_4 (List.mem_of_getElem? (i := 41) rfl))
theorem lm_2116 : Cond.classLink "OddTouchLaw" 13 "java/lang/IllegalArgumentException" ∈ lw_tbl := List.mem_append_right _ (tin_4 (List.mem_of_getElem? (i := 28) rfl))
theorem lm_2117 : Cond.classLink "OddTouchLaw" 19 "java/util/NoSuchElementException" ∈ lw_tbl := List.mem_append_right _ (tin_5 (List.mem_of_getElem? (i := 215) rfl))
theorem lm_2118 : Cond.classLink "OddTouchLaw" 43 "java/lang/IllegalStateException" ∈ lw_tbl := List.mem_append_right _ (tin_6 (List.mem_of_getElem? (i := 86) rfl))
theorem lm_2119 : Cond.classLink "OddTouchLaw" 105 "java/lang/IndexOutOfBoundsException" ∈ lw_tbl := List.mem_append_right _ (tin_7 (List.mem_of_getElem? (i := 220) rfl))
theorem lm_2120 : Cond.arrayOver (.object "OddTouch$Image") ∈ lw_tbl := List.mem_append_right _ (tin_2 (List.mem_of_getElem? (i := 36) rfl))
theorem lm_2121 : Cond.arrayOver (.object "OddTouch$Tray") ∈ lw_tbl := List.mem_append_right _ (tin_2 (List.mem_of_getElem? (i := 38) rfl))
theorem lm_2122 : Cond.laysStatic Bundle.tN "UNASSIGNED_STACK" Bundle.steD ∈ lw_tbl := List.mem_append_right _ (tin_4 (List.mem_of_getElem? (i := 60) rfl))
theorem lm_2123 : Cond.laysStatic Bundle.tN "SUPPRESSED_SENTINEL" Bundle.listD ∈ lw_tbl := List.mem_append_right _ (tin_4 (List.mem_of_getElem? (i := 62) rfl))
theorem lm_2124 : Cond.initialized Bundle.tN ∈ lw_tbl := List.mem_append_right _ (tin_1 (List.mem_of_getElem? (i := 14) rfl))
theorem lm_2125 : Cond.laysStatic "java/lang/String" "COMPACT_STRINGS" "Z" ∈ lw_tbl := List.mem_append_right _ (tin_4 (List.mem_of_getElem? (i := 141) rfl))
theorem lm_2126 : Cond.laysStatic "jdk/internal/util/Preconditions" "SIOOBE_FORMATTER" "Ljava/util/function/BiFunction;" ∈ lw_tbl := List.mem_append_right _ (tin_4 (List.mem_of_getElem? (i := 180) rfl))
/-! ===== the law from its entry ===== -/
theorem arr_p {args : Array Value} {s : State} {ty : FieldType} (hp : ∀ C, ty ≠ .object C) (h : (Cond.arrayClass ty).before args s = true) : ∃ cA, ArrOfT s cA ty ∧ va_RA s cA ty := by
  obtain ⟨c, k, comp, h1, h2, h3⟩ := Cond.arrayClass_spec (args := args) (first := s) (o := none) (idx := []) h
  exact ⟨c, fun n z => ⟨fun k h => (by cases h), k, h2, comp, h3⟩, by cases ty <;> first | exact absurd rfl (hp _) | exact h1⟩
theorem arr_o {args : Array Value} {s : State} {C : String} (h : (Cond.arrayOver (.object C)).before args s = true) : ∃ cA, ArrOfT s cA (.object C) ∧ va_RA s cA (.object C) := by
  obtain ⟨comp, c, k, h1, -, h2, h3, h4⟩ := Cond.arrayOver_spec (args := args) (first := s) (o := none) (idx := []) h
  exact ⟨c, fun n z => ⟨fun k h => (by cases h), k, h2, comp, h3⟩, k, comp, h2, h3, h1, h4⟩
theorem str_in {args : Array Value} {s : State} {own tx : String} {k : Nat} (h1 : (Cond.stringRef own k tx).before args s = true) (h2 : (Cond.exactly (.string own k) "java/lang/String").before args s = true) : ∃ a, vk_R own k tx a s := by
  obtain ⟨a, -, -, -, e, -⟩ := Cond.exactly_spec (args := args) (first := s) (o := none) (s := s) (idx := []) h2
  exact ⟨a, vk_R.of h1 e⟩
theorem nest_tab {w : Cond} (h : isNest w = true) : w.onTables = true := by cases w <;> first | rfl | cases h
theorem nests_in : ∀ w ∈ nests, w ∈ lw_tbl := (List.forall_mem_cons.mpr ⟨lm_2005, (List.forall_mem_cons.mpr ⟨lm_2006, (List.forall_mem_cons.mpr ⟨lm_2007, (List.forall_mem_cons.mpr ⟨lm_2008, (List.forall_mem_cons.mpr ⟨lm_2009, (List.forall_mem_cons.mpr ⟨lm_2010, (List.forall_mem_cons.mpr ⟨lm_2011, (List.forall_mem_cons.mpr ⟨lm_2012, (List.forall_mem_cons.mpr ⟨lm_2013, (List.forall_mem_cons.mpr ⟨lm_2014, (List.forall_mem_cons.mpr ⟨lm_2015, (List.forall_mem_cons.mpr ⟨lm_2016, (List.forall_mem_cons.mpr ⟨lm_2017, (List.forall_mem_cons.mpr ⟨lm_2018, (List.forall_mem_cons.mpr ⟨lm_2019, (List.forall_mem_cons.mpr ⟨lm_2020, (List.forall_mem_cons.mpr ⟨lm_2021, (List.forall_mem_cons.mpr ⟨lm_2022, (List.forall_mem_cons.mpr ⟨lm_2023, (List.forall_mem_cons.mpr ⟨lm_2024, (fun _ h => absurd h List.not_mem_nil)⟩)⟩)⟩)⟩)⟩)⟩)⟩)⟩)⟩)⟩)⟩)⟩)⟩)⟩)⟩)⟩)⟩)⟩)⟩)⟩)
theorem strs_in : ∀ q ∈ strs, Cond.stringRef q.1 q.2.1 q.2.2 ∈ lw_tbl := (List.forall_mem_cons.mpr ⟨lm_2025, (List.forall_mem_cons.mpr ⟨lm_2026, (List.forall_mem_cons.mpr ⟨lm_2027, (List.forall_mem_cons.mpr ⟨lm_2028, (List.forall_mem_cons.mpr ⟨lm_2029, (List.forall_mem_cons.mpr ⟨lm_2030, (List.forall_mem_cons.mpr ⟨lm_2031, (List.forall_mem_cons.mpr ⟨lm_2032, (List.forall_mem_cons.mpr ⟨lm_2033, (List.forall_mem_cons.mpr ⟨lm_2034, (List.forall_mem_cons.mpr ⟨lm_2035, (List.forall_mem_cons.mpr ⟨lm_2036, (List.forall_mem_cons.mpr ⟨lm_2037, (List.forall_mem_cons.mpr ⟨lm_2038, (List.forall_mem_cons.mpr ⟨lm_2039, (List.forall_mem_cons.mpr ⟨lm_2040, (List.forall_mem_cons.mpr ⟨lm_2041, (List.forall_mem_cons.mpr ⟨lm_2042, (List.forall_mem_cons.mpr ⟨lm_2043, (List.forall_mem_cons.mpr ⟨lm_2044, (List.forall_mem_cons.mpr ⟨lm_2045, (List.forall_mem_cons.mpr ⟨lm_2046, (List.forall_mem_cons.mpr ⟨lm_2047, (List.forall_mem_cons.mpr ⟨lm_2048, (List.forall_mem_cons.mpr ⟨lm_2049, (List.forall_mem_cons.mpr ⟨lm_2050, (List.forall_mem_cons.mpr ⟨lm_2051, (List.forall_mem_cons.mpr ⟨lm_2052, (List.forall_mem_cons.mpr ⟨lm_2053, (List.forall_mem_cons.mpr ⟨lm_2054, (List.forall_mem_cons.mpr ⟨lm_2055, (List.forall_mem_cons.mpr ⟨lm_2056, (List.forall_mem_cons.mpr ⟨lm_2057, (List.forall_mem_cons.mpr ⟨lm_2058, (List.forall_mem_cons.mpr ⟨lm_2059, (List.forall_mem_cons.mpr ⟨lm_2060, (List.forall_mem_cons.mpr ⟨lm_2061, (List.forall_mem_cons.mpr ⟨lm_2062, (List.forall_mem_cons.mpr ⟨lm_2063, (List.forall_mem_cons.mpr ⟨lm_2064, (List.forall_mem_cons.mpr ⟨lm_2065, (List.forall_mem_cons.mpr ⟨lm_2066, (List.forall_mem_cons.mpr ⟨lm_2067, (List.forall_mem_cons.mpr ⟨lm_2068, (List.forall_mem_cons.mpr ⟨lm_2069, (List.forall_mem_cons.mpr ⟨lm_2070, (List.forall_mem_cons.mpr ⟨lm_2071, (List.forall_mem_cons.mpr ⟨lm_2072, (List.forall_mem_cons.mpr ⟨lm_2073, (List.forall_mem_cons.mpr ⟨lm_2074, (List.forall_mem_cons.mpr ⟨lm_2075, (List.forall_mem_cons.mpr ⟨lm_2076, (List.forall_mem_cons.mpr ⟨lm_2077, (List.forall_mem_cons.mpr ⟨lm_2078, (List.forall_mem_cons.mpr ⟨lm_2079, (List.forall_mem_cons.mpr ⟨lm_2080, (List.forall_mem_cons.mpr ⟨lm_2081, (List.forall_mem_cons.mpr ⟨lm_2082, (List.forall_mem_cons.mpr ⟨lm_2083, (List.forall_mem_cons.mpr ⟨lm_2084, (List.forall_mem_cons.mpr ⟨lm_2085, (List.forall_mem_cons.mpr ⟨lm_2086, (List.forall_mem_cons.mpr ⟨lm_2087, (List.forall_mem_cons.mpr ⟨lm_2088, (List.forall_mem_cons.mpr ⟨lm_2089, (List.forall_mem_cons.mpr ⟨lm_2090, (List.forall_mem_cons.mpr ⟨lm_2091, (List.forall_mem_cons.mpr ⟨lm_2092, (List.forall_mem_cons.mpr ⟨lm_2093, (List.forall_mem_cons.mpr ⟨lm_2094, (List.forall_mem_cons.mpr ⟨lm_2095, (List.forall_mem_cons.mpr ⟨lm_2096, (List.forall_mem_cons.mpr ⟨lm_2097, (List.forall_mem_cons.mpr ⟨lm_2098, (List.forall_mem_cons.mpr ⟨lm_2099, (List.forall_mem_cons.mpr ⟨lm_2100, (List.forall_mem_cons.mpr ⟨lm_2101, (List.forall_mem_cons.mpr ⟨lm_2102, (List.forall_mem_cons.mpr ⟨lm_2103, (List.forall_mem_cons.mpr ⟨lm_2104, (List.forall_mem_cons.mpr ⟨lm_2105, (List.forall_mem_cons.mpr ⟨lm_2106, (List.forall_mem_cons.mpr ⟨lm_2107, (List.forall_mem_cons.mpr ⟨lm_2108, (fun _ h => absurd h List.not_mem_nil)⟩)⟩)⟩)⟩)⟩)⟩)⟩)⟩)⟩)⟩)⟩)⟩)⟩)⟩)⟩)⟩)⟩)⟩)⟩)⟩)⟩)⟩)⟩)⟩)⟩)⟩)⟩)⟩)⟩)⟩)⟩)⟩)⟩)⟩)⟩)⟩)⟩)⟩)⟩)⟩)⟩)⟩)⟩)⟩)⟩)⟩)⟩)⟩)⟩)⟩)⟩)⟩)⟩)⟩)⟩)⟩)⟩)⟩)⟩)⟩)⟩)⟩)⟩)⟩)⟩)⟩)⟩)⟩)⟩)⟩)⟩)⟩)⟩)⟩)⟩)⟩)⟩)⟩)⟩)⟩)⟩)⟩)⟩)⟩)
theorem strs_ex : ∀ q ∈ strs, Cond.exactly (.string q.1 q.2.1) "java/lang/String" ∈ flatC (Jvm.Cond.and given_1 narrow_1) := by decide +kernel
theorem excs_in : ∀ E ∈ excs, Cond.castable E E ∈ lw_tbl := (List.forall_mem_cons.mpr ⟨lm_2109, (List.forall_mem_cons.mpr ⟨lm_2110, (List.forall_mem_cons.mpr ⟨lm_2111, (List.forall_mem_cons.mpr ⟨lm_2112, (fun _ h => absurd h List.not_mem_nil)⟩)⟩)⟩)⟩)
theorem links_in : ∀ q ∈ links, Cond.classLink "OddTouchLaw" q.1 q.2 ∈ lw_tbl := (List.forall_mem_cons.mpr ⟨lm_2116, (List.forall_mem_cons.mpr ⟨lm_2117, (List.forall_mem_cons.mpr ⟨lm_2118, (List.forall_mem_cons.mpr ⟨lm_2119, (fun _ h => absurd h List.not_mem_nil)⟩)⟩)⟩)⟩)
theorem ups_in : ∀ Y ∈ ups, Cond.declares (Bundle.initS Y) ∈ lw_tbl := (List.forall_mem_cons.mpr ⟨lm_2113, (List.forall_mem_cons.mpr ⟨lm_2114, (List.forall_mem_cons.mpr ⟨lm_2115, (fun _ h => absurd h List.not_mem_nil)⟩)⟩)⟩)
theorem excs_no : ∀ E ∈ excs, ∀ G ∈ excs, E ≠ G → Cond.not (.castable E G) ∈ flatC (Jvm.Cond.and given_1 narrow_1) := by decide +kernel
theorem un_in : Cond.isRef (.static Bundle.tN "UNASSIGNED_STACK" Bundle.steD) ∈ flatC (Jvm.Cond.and given_1 narrow_1) := by decide +kernel
theorem su_in : Cond.isRef (.static Bundle.tN "SUPPRESSED_SENTINEL" Bundle.listD) ∈ flatC (Jvm.Cond.and given_1 narrow_1) := by decide +kernel
set_option maxHeartbeats 4000000 in
theorem law_K {args : Array Value} {s : State} (hts : ∀ w ∈ lw_tbl, w.before args s = true) : ∃ (D : va_G) (cy : Nat → ClassId), va_K D vwCl (TY cy) s := by
  obtain ⟨c0, i0, hk0⟩ := u_known (C := RX0) (T := TX0) (N := 13) (n := 13) hts lr_wsX00 (hts _ lm_1945)
  obtain ⟨c1, i1, hk1⟩ := u_known (C := RX1) (T := TX1) (N := 4) (n := 4) hts lr_wsX10 (hts _ lm_1940)
  obtain ⟨c2, i2, hk2⟩ := u_known (C := RX2) (T := TX2) (N := 5) (n := 5) hts lr_wsX20 (hts _ lm_1953)
  obtain ⟨c3, i3, hk3⟩ := u_known (C := RX3) (T := TX3) (N := 2) (n := 2) hts lr_wsX30 (hts _ lm_1943)
  obtain ⟨c4, i4, hk4⟩ := u_known (C := RX4) (T := TX4) (N := 3) (n := 3) hts lr_wsX40 (hts _ lm_1926)
  obtain ⟨c5, i5, hk5⟩ := u_known (C := RX5) (T := TX5) (N := 9) (n := 9) hts lr_wsX50 (hts _ lm_1947)
  obtain ⟨c6, i6, hk6⟩ := u_known (C := RX6) (T := TX6) (N := 9) (n := 9) hts lr_wsX60 (hts _ lm_1930)
  obtain ⟨c7, i7, hk7⟩ := u_known (C := RX7) (T := TX7) (N := 7) (n := 7) hts lr_wsX70 (hts _ lm_1928)
  obtain ⟨c8, i8, hk8⟩ := u_known (C := RX8) (T := TX8) (N := 9) (n := 9) hts lr_wsX80 (hts _ lm_1941)
  obtain ⟨c9, i9, hk9⟩ := u_known (C := RX9) (T := TX9) (N := 18) (n := 18) hts lr_wsX90 (hts _ lm_1932)
  obtain ⟨c10, i10, hk10⟩ := u_known (C := RX10) (T := TX10) (N := 3) (n := 3) hts lr_wsX100 (hts _ lm_1939)
  obtain ⟨c11, i11, hk11⟩ := u_known (C := RX11) (T := TX11) (N := 14) (n := 14) hts lr_wsX110 (hts _ lm_1998)
  obtain ⟨c12, i12, hk12⟩ := u_known (C := RX12) (T := TX12) (N := 44) (n := 44) hts lr_wsX120 (hts _ lm_2002)
  obtain ⟨y0, hy0⟩ := arr_p (ty := .byte) (fun _ h => by cases h) (hts _ lm_1934)
  obtain ⟨y1, hy1⟩ := arr_p (ty := .int) (fun _ h => by cases h) (hts _ lm_1925)
  obtain ⟨y2, hy2⟩ := arr_p (ty := .long) (fun _ h => by cases h) (hts _ lm_1976)
  obtain ⟨y3, hy3⟩ := arr_p (ty := .boolean) (fun _ h => by cases h) (hts _ lm_1995)
  obtain ⟨y4, hy4⟩ := arr_o (hts _ lm_2120)
  obtain ⟨y5, hy5⟩ := arr_o (hts _ lm_2121)
  refine ⟨(fun k => match k with | 0 => c0 | 1 => c1 | 2 => c2 | 3 => c3 | 4 => c4 | 5 => c5 | 6 => c6 | 7 => c7 | 8 => c8 | 9 => c9 | 10 => c10 | 11 => c11 | _ => c12, fun k => match k with | 0 => i0 | 1 => i1 | 2 => i2 | 3 => i3 | 4 => i4 | 5 => i5 | 6 => i6 | 7 => i7 | 8 => i8 | 9 => i9 | 10 => i10 | 11 => i11 | _ => i12), fun k => match k with | 0 => y0 | 1 => y1 | 2 => y2 | 3 => y3 | 4 => y4 | _ => y5, ?_, ?_⟩
  · intro k q hq
    match k, hq with
    | 0, hq => cases hq; exact hk0
    | 1, hq => cases hq; exact hk1
    | 2, hq => cases hq; exact hk2
    | 3, hq => cases hq; exact hk3
    | 4, hq => cases hq; exact hk4
    | 5, hq => cases hq; exact hk5
    | 6, hq => cases hq; exact hk6
    | 7, hq => cases hq; exact hk7
    | 8, hq => cases hq; exact hk8
    | 9, hq => cases hq; exact hk9
    | 10, hq => cases hq; exact hk10
    | 11, hq => cases hq; exact hk11
    | 12, hq => cases hq; exact hk12
    | k + 13, hq => simp [vwCl] at hq
  · intro k q hq
    match k, hq with
    | 0, hq => cases hq; exact hy0
    | 1, hq => cases hq; exact hy1
    | 2, hq => cases hq; exact hy2
    | 3, hq => cases hq; exact hy3
    | 4, hq => cases hq; exact hy4
    | 5, hq => cases hq; exact hy5
    | k + 6, hq => simp [TY] at hq
theorem law_G {args : Array Value} {s : State} (hts : ∀ w ∈ lw_tbl, w.before args s = true) (hfl : ∀ w ∈ flatC (Jvm.Cond.and given_1 narrow_1), w.before args s = true) : GW s :=
  ⟨fun w hw => va_Nw.of (nest_tab (List.all_eq_true.mp nests_ok w hw)) (hts w (nests_in w hw)), fun q hq => str_in (hts _ (strs_in q hq)) (hfl _ (strs_ex q hq)), va_AO.of (hts _ lm_2120), va_AO.of (hts _ lm_2121), fun E hE => va_Nw.of rfl (hts _ (excs_in E hE)), fun Y hY => va_Nw.of rfl (hts _ (ups_in Y hY)), fun E hE G hG n => va_Nc.of (hfl _ (excs_no E hE G hG n)), fun q hq => va_Nw.of rfl (hts _ (links_in q hq))⟩
/-! ===== the texts ===== -/
def stq (i : Nat) : String × Nat × String := strs.getD i ("", 0, "")
def tmS (i : Nat) : Term := .string (stq i).1 (stq i).2.1
def elw (i j : Nat) : Cond := Cond.eq (.elem (.field (tmS i) "java/lang/String" "value" "[B") (.int (Int32.ofNat j))) (.int ((sbyt.getD i []).getD j 0))
def wantT (i : Nat) : List Cond := Cond.exactly (tmS i) "java/lang/String" :: Cond.eq (.field (tmS i) "java/lang/String" "coder" "B") (.int 0) :: Cond.arrayOf (.field (tmS i) "java/lang/String" "value" "[B") .byte :: Cond.eq (.length (.field (tmS i) "java/lang/String" "value" "[B")) (.int (Int32.ofNat (sbyt.getD i []).length)) :: (List.range (sbyt.getD i []).length).map (elw i)
def notSS : Cond → Bool
  | .eq (.string _ _) (.string _ _) => false
  | _ => true
theorem tx_eq : (List.range strs.length).flatMap wantT = ((flatC (Jvm.Cond.and given_1 narrow_1)).drop 111).filter notSS := by decide +kernel
theorem tx_in {i : Nat} {w : Cond} (hi : i ∈ List.range strs.length) (h : w ∈ wantT i) : w ∈ flatC (Jvm.Cond.and given_1 narrow_1) := by
  have h1 : w ∈ (List.range strs.length).flatMap wantT := List.mem_flatMap.mpr ⟨i, hi, h⟩
  rw [tx_eq] at h1
  exact List.mem_of_mem_drop (List.mem_filter.mp h1).1
theorem tx_ex : ∀ i ∈ List.range strs.length, Cond.exactly (tmS i) "java/lang/String" ∈ flatC (Jvm.Cond.and given_1 narrow_1) := fun i hi => tx_in hi List.mem_cons_self
theorem tx_co : ∀ i ∈ List.range strs.length, Cond.eq (.field (tmS i) "java/lang/String" "coder" "B") (.int 0) ∈ flatC (Jvm.Cond.and given_1 narrow_1) := fun i hi => tx_in hi (List.mem_cons_of_mem _ List.mem_cons_self)
theorem tx_ar : ∀ i ∈ List.range strs.length, Cond.arrayOf (.field (tmS i) "java/lang/String" "value" "[B") .byte ∈ flatC (Jvm.Cond.and given_1 narrow_1) := fun i hi => tx_in hi (List.mem_cons_of_mem _ (List.mem_cons_of_mem _ List.mem_cons_self))
theorem tx_le : ∀ i ∈ List.range strs.length, Cond.eq (.length (.field (tmS i) "java/lang/String" "value" "[B")) (.int (Int32.ofNat (sbyt.getD i []).length)) ∈ flatC (Jvm.Cond.and given_1 narrow_1) := fun i hi => tx_in hi (List.mem_cons_of_mem _ (List.mem_cons_of_mem _ (List.mem_cons_of_mem _ List.mem_cons_self)))
theorem tx_el : ∀ i ∈ List.range strs.length, ∀ j ∈ List.range (sbyt.getD i []).length, elw i j ∈ flatC (Jvm.Cond.and given_1 narrow_1) := fun i hi j hj => tx_in hi (List.mem_cons_of_mem _ (List.mem_cons_of_mem _ (List.mem_cons_of_mem _ (List.mem_cons_of_mem _ (List.mem_map.mpr ⟨j, hj, rfl⟩)))))
theorem tx_ln : ∀ i ∈ List.range strs.length, (sbyt.getD i []).length < 2 ^ 31 := by decide +kernel
theorem tx_cs : Cond.eq (.static "java/lang/String" "COMPACT_STRINGS" "Z") (.int 1) ∈ flatC (Jvm.Cond.and given_1 narrow_1) := by decide +kernel
theorem tx_fm : Cond.isRef (.static "jdk/internal/util/Preconditions" "SIOOBE_FORMATTER" "Ljava/util/function/BiFunction;") ∈ flatC (Jvm.Cond.and given_1 narrow_1) := by decide +kernel
theorem law_S {args : Array Value} {s : State} {A : Nat → Prop} (hts : ∀ w ∈ lw_tbl, w.before args s = true) (hfl : ∀ w ∈ flatC (Jvm.Cond.and given_1 narrow_1), w.before args s = true) (hA : ∀ a : Nat, a < s.heap.size → ¬ A a) : ∃ T1 T2 : Nat → Nat, ∀ ad : Nat → Nat, (∀ i, i < 1000 → ad (1000 + i) = T1 i) → (∀ i, ad (2000 + i) = T2 i) → SA ad s ∧ SS ad A s s.heap := by
  have h0 : ∀ i : Nat, ∃ q : Nat × Nat, i < strs.length → (tmS i).eval args s none [] s = some (.ref q.1) ∧ va_O "java/lang/String" q.1 A s s.heap ∧ va_OF "java/lang/String" "coder" "B" (.int 0) q.1 A s s.heap ∧ va_OF "java/lang/String" "value" "[B" (.ref q.2) q.1 A s s.heap ∧ va_T .byte q.2 (sbyt.getD i []).length (fun j => .int ((sbyt.getD i []).getD j 0)) A s s.heap := by
    intro i
    by_cases hi : i < strs.length
    · have hr := List.mem_range.mpr hi
      obtain ⟨a, c, cA, kA, q1, q2, q3, q4, q5, q6, -⟩ := Cond.exactly_spec (args := args) (first := s) (o := none) (s := s) (idx := []) (t := tmS i) (cls := "java/lang/String") (hfl _ (tx_ex i hr))
      obtain ⟨t, ht, hT⟩ := va_Tof (f := fun j => .int ((sbyt.getD i []).getD j 0)) (A := A) (tx_ln i hr) (hfl _ (tx_ar i hr)) (va_eqt (hfl _ (tx_le i hr))) (fun j hj => va_eqt (hfl _ (tx_el i hr j (List.mem_range.mpr hj)))) hA
      exact ⟨(a, t), fun _ => ⟨q1, ⟨cA, q3, q5, by rw [q6]; exact q2, hA a (Array.getElem?_eq_some_iff.mp q3).1⟩, vk_OFof q1 (va_eqt (hfl _ (tx_co i hr))) hA, vk_OFof q1 ht hA, hT⟩⟩
    · exact ⟨(0, 0), fun h => absurd h hi⟩
  obtain ⟨f, hf⟩ := Classical.axiomOfChoice h0
  refine ⟨fun i => (f i).1, fun i => (f i).2, fun ad e1 e2 => ⟨fun i q hq => ?_, va_Zof (hts _ lm_2125) (hts _ lm_1005) (va_eqi (hfl _ tx_cs)) hA, va_Zqof (hts _ lm_2126) (hts _ lm_1033) (hfl _ tx_fm) hA, fun i hi => ?_⟩⟩
  · have hi : i < strs.length := (List.getElem?_eq_some_iff.mp hq).1
    have e3 : stq i = q := by unfold stq; rw [List.getD_eq_getElem?_getD, hq]; rfl
    have h1 := (hf i hi).1
    unfold tmS at h1
    rw [e3] at h1
    rw [e1 i (Nat.lt_of_lt_of_le hi (by decide))]
    exact vk_R.of (hts _ (strs_in q (List.mem_of_getElem? hq))) h1
  · rw [e1 i (Nat.lt_of_lt_of_le hi (by decide)), e2]
    exact (hf i hi).2
/-! ===== the start's memory ===== -/
def adF (ls : List Nat) (T1 T2 : Nat → Nat) (k : Nat) : Nat := if k < 1000 then ls.getD k 0 else if k < 2000 then T1 (k - 1000) else T2 (k - 2000)
def M0l : List (Nat → Int) := [fun _ => 0, fun _ => 0, fun _ => 0, fun _ => 0, fun _ => 0, fun _ => 0, fun _ => 0, fun _ => 0, fun _ => 0, fun _ => 0, fun _ => 0, fun _ => 0, fun _ => 0, fun _ => 0, fun j => ([0, 0, 1, 0, 0] : List Int).getD j 0, fun _ => 0, fun _ => 0, fun _ => 0, fun j => ([0, 0, (-1), 0, 0, 0, 0, 0, 0] : List Int).getD j 0, fun _ => 0, fun _ => 0, fun _ => 0, fun _ => 0, fun _ => 0, fun _ => 0, fun _ => 0, fun _ => 0, fun _ => 0, fun _ => 0, fun _ => 0, fun _ => 0, fun j => ([0, 0, 1, 0, 0] : List Int).getD j 0, fun _ => 0, fun _ => 0, fun _ => 0, fun _ => 0, fun _ => 0, fun _ => 0, fun _ => 0, fun _ => 0, fun _ => 0, fun _ => 0, fun _ => 0, fun _ => 0, fun _ => 0, fun _ => 0, fun _ => 0, fun _ => 0, fun _ => 0, fun _ => 0, fun _ => 0, fun _ => 0, fun _ => 0, fun _ => 0, fun _ => 0, fun _ => 0, fun _ => 0, fun _ => 0, fun _ => 0, fun _ => 0, fun _ => 0, fun _ => 0, fun _ => 0, fun _ => 0, fun _ => 0, fun _ => 0, fun _ => 0, fun _ => 0, fun _ => 0, fun _ => 0, fun _ => 0, fun _ => 0, fun _ => 0, fun _ => 0, fun _ => 0, fun _ => 0, fun j => ([0, 0, 1, 0, 0] : List Int).getD j 0, fun _ => 0, fun _ => 0, fun _ => 0, fun _ => 0, fun _ => 0, fun _ => 0, fun _ => 0, fun _ => 0, fun _ => 0, fun _ => 0, fun _ => 0, fun _ => 0, fun _ => 0, fun _ => 0, fun _ => 0, fun _ => 0, fun _ => 0, fun _ => 0, fun _ => 0, fun j => ([0, 0, 1, 0, 0] : List Int).getD j 0, fun _ => 0, fun _ => 0, fun _ => 0, fun _ => 0, fun _ => 0, fun _ => 0, fun _ => 0, fun _ => 0, fun _ => 0, fun _ => 0, fun _ => 0, fun _ => 0, fun _ => 0, fun _ => 0, fun _ => 0, fun _ => 0, fun _ => 0, fun _ => 0, fun _ => 0, fun j => ([0, 0, 1, 0, 0] : List Int).getD j 0, fun _ => 0, fun _ => 0, fun _ => 0, fun _ => 0, fun _ => 0, fun _ => 0, fun j => ([(-1), 0, 0] : List Int).getD j 0, fun _ => 0, fun j => ([(-1), 0, 0] : List Int).getD j 0, fun _ => 0, fun j => ([(-1), 0, 0] : List Int).getD j 0, fun _ => 0, fun j => ([(-1), 0, 0] : List Int).getD j 0, fun _ => 0, fun j => ([0, 0, 0, 0, 0, 0, 0, 0, 0, 0, 0, 0, 0, 0, 0, (-1), 0, 0, 0, 0, 0, 0, 0, 0, 0, 0, 0, 0, 0, 0, 0, 0, 0, 0, 0, 0, 0, 0, 0, 0, 0, 0, 0, 0] : List Int).getD j 0, fun _ => 0, fun _ => 0, fun _ => 0, fun _ => 0, fun _ => 0, fun _ => 0, fun _ => 0, fun _ => 0, fun _ => 0, fun _ => 0, fun _ => 0, fun _ => 0, fun _ => 0, fun _ => 0, fun _ => 0, fun _ => 0, fun j => if j < 4 then -1 else 0, fun _ => 0, fun _ => 0, fun _ => 0]
def M0 : Mem := fun k => M0l.getD k (fun _ => 0)
def okr (b : Nat → Int × Int) (m : Nat → Int) : Prop := ∀ j, (b j).1 ≤ m j ∧ m j ≤ (b j).2
theorem ok_l {bl : List (Int × Int)} {ml : List Int} (h : ∀ j < bl.length, (bl.getD j anyI).1 ≤ ml.getD j 0 ∧ ml.getD j 0 ≤ (bl.getD j anyI).2) (hl : ml.length ≤ bl.length) : okr (fun j => bl.getD j anyI) (fun j => ml.getD j 0) := fun j => by
  by_cases hj : j < bl.length
  · exact h j hj
  · have e1 : bl.getD j anyI = anyI := by rw [List.getD_eq_getElem?_getD, List.getElem?_eq_none (by omega)]; rfl
    have e2 : ml.getD j 0 = 0 := by rw [List.getD_eq_getElem?_getD, List.getElem?_eq_none (by omega)]; rfl
    show (bl.getD j anyI).1 ≤ ml.getD j 0 ∧ ml.getD j 0 ≤ (bl.getD j anyI).2
    rw [e1, e2]; decide
theorem ok_z {bl : List (Int × Int)} (h : ∀ j < bl.length, (bl.getD j anyI).1 ≤ 0 ∧ 0 ≤ (bl.getD j anyI).2) : okr (fun j => bl.getD j anyI) (fun _ => 0) := fun j => by
  by_cases hj : j < bl.length
  · exact h j hj
  · have e1 : bl.getD j anyI = anyI := by rw [List.getD_eq_getElem?_getD, List.getElem?_eq_none (by omega)]; rfl
    show (bl.getD j anyI).1 ≤ 0 ∧ 0 ≤ (bl.getD j anyI).2
    rw [e1]; decide
theorem ok_c {lo hi : Int} (h1 : lo ≤ 0) (h2 : 0 ≤ hi) : okr (fun _ => (lo, hi)) (fun _ => 0) := fun _ => ⟨h1, h2⟩
theorem ok_148 : okr (fun _ => (-1, 3)) (fun j => if j < 4 then -1 else 0) := fun j => by
  show (-1 : Int) ≤ (if j < 4 then -1 else 0) ∧ (if j < 4 then (-1 : Int) else 0) ≤ 3
  split <;> decide
theorem ok_sc : okr sc34 (fun _ => 0) := fun j => by show (sc34 j).1 ≤ 0 ∧ 0 ≤ (sc34 j).2; unfold sc34; split <;> decide
theorem ok_as : okr as18 (fun _ => 0) := fun j => by show (as18 j).1 ≤ 0 ∧ 0 ≤ (as18 j).2; unfold as18; split <;> decide
theorem ok_kn : okr kn (fun _ => 0) := fun j => kn_0
theorem ok_k3 : okr kn3 (fun _ => 0) := fun j => kn_0
set_option maxRecDepth 20000 in
theorem ok_all : ∀ q ∈ Bs.zip M0l, okr q.1 q.2 := (List.forall_mem_cons.mpr ⟨(ok_z (by decide)), (List.forall_mem_cons.mpr ⟨(ok_c (by decide) (by decide)), (List.forall_mem_cons.mpr ⟨(ok_z (by decide)), (List.forall_mem_cons.mpr ⟨(ok_c (by decide) (by decide)), (List.forall_mem_cons.mpr ⟨(ok_c (by decide) (by decide)), (List.forall_mem_cons.mpr ⟨(ok_c (by decide) (by decide)), (List.forall_mem_cons.mpr ⟨(ok_c (by decide) (by decide)), (List.forall_mem_cons.mpr ⟨(ok_c (by decide) (by decide)), (List.forall_mem_cons.mpr ⟨(ok_c (by decide) (by decide)), (List.forall_mem_cons.mpr ⟨(ok_c (by decide) (by decide)), (List.forall_mem_cons.mpr ⟨(ok_c (by decide) (by decide)), (List.forall_mem_cons.mpr ⟨(ok_c (by decide) (by decide)), (List.forall_mem_cons.mpr ⟨(ok_c (by decide) (by decide)), (List.forall_mem_cons.mpr ⟨(ok_c (by decide) (by decide)), (List.forall_mem_cons.mpr ⟨(ok_l (by decide) (by decide)), (List.forall_mem_cons.mpr ⟨(ok_c (by decide) (by decide)), (List.forall_mem_cons.mpr ⟨(ok_c (by decide) (by decide)), (List.forall_mem_cons.mpr ⟨(ok_c (by decide) (by decide)), (List.forall_mem_cons.mpr ⟨(ok_l (by decide) (by decide)), (List.forall_mem_cons.mpr ⟨(ok_z (by decide)), (List.forall_mem_cons.mpr ⟨(ok_c (by decide) (by decide)), (List.forall_mem_cons.mpr ⟨(ok_c (by decide) (by decide)), (List.forall_mem_cons.mpr ⟨(ok_c (by decide) (by decide)), (List.forall_mem_cons.mpr ⟨(ok_c (by decide) (by decide)), (List.forall_mem_cons.mpr ⟨(ok_c (by decide) (by decide)), (List.forall_mem_cons.mpr ⟨(ok_c (by decide) (by decide)), (List.forall_mem_cons.mpr ⟨(ok_c (by decide) (by decide)), (List.forall_mem_cons.mpr ⟨(ok_c (by decide) (by decide)), (List.forall_mem_cons.mpr ⟨(ok_c (by decide) (by decide)), (List.forall_mem_cons.mpr ⟨(ok_c (by decide) (by decide)), (List.forall_mem_cons.mpr ⟨(ok_c (by decide) (by decide)), (List.forall_mem_cons.mpr ⟨(ok_l (by decide) (by decide)), (List.forall_mem_cons.mpr ⟨(ok_c (by decide) (by decide)), (List.forall_mem_cons.mpr ⟨(ok_c (by decide) (by decide)), (List.forall_mem_cons.mpr ⟨(ok_c (by decide) (by decide)), (List.forall_mem_cons.mpr ⟨(ok_z (by decide)), (List.forall_mem_cons.mpr ⟨(ok_c (by decide) (by decide)), (List.forall_mem_cons.mpr ⟨(ok_c (by decide) (by decide)), (List.forall_mem_cons.mpr ⟨(ok_c (by decide) (by decide)), (List.forall_mem_cons.mpr ⟨(ok_c (by decide) (by decide)), (List.forall_mem_cons.mpr ⟨(ok_z (by decide)), (List.forall_mem_cons.mpr ⟨ok_sc, (List.forall_mem_cons.mpr ⟨ok_sc, (List.forall_mem_cons.mpr ⟨(ok_c (by decide) (by decide)), (List.forall_mem_cons.mpr ⟨(ok_c (by decide) (by decide)), (List.forall_mem_cons.mpr ⟨(ok_z (by decide)), (List.forall_mem_cons.mpr ⟨(ok_c (by decide) (by decide)), (List.forall_mem_cons.mpr ⟨(ok_c (by decide) (by decide)), (List.forall_mem_cons.mpr ⟨(ok_c (by decide) (by decide)), (List.forall_mem_cons.mpr ⟨(ok_z (by decide)), (List.forall_mem_cons.mpr ⟨(ok_c (by decide) (by decide)), (List.forall_mem_cons.mpr ⟨(ok_c (by decide) (by decide)), (List.forall_mem_cons.mpr ⟨(ok_c (by decide) (by decide)), (List.forall_mem_cons.mpr ⟨(ok_c (by decide) (by decide)), (List.forall_mem_cons.mpr ⟨(ok_c (by decide) (by decide)), (List.forall_mem_cons.mpr ⟨(ok_c (by decide) (by decide)), (List.forall_mem_cons.mpr ⟨(ok_c (by decide) (by decide)), (List.forall_mem_cons.mpr ⟨(ok_z (by decide)), (List.forall_mem_cons.mpr ⟨(ok_z (by decide)), (List.forall_mem_cons.mpr ⟨(ok_c (by decide) (by decide)), (List.forall_mem_cons.mpr ⟨(ok_c (by decide) (by decide)), (List.forall_mem_cons.mpr ⟨(ok_c (by decide) (by decide)), (List.forall_mem_cons.mpr ⟨(ok_c (by decide) (by decide)), (List.forall_mem_cons.mpr ⟨(ok_z (by decide)), (List.forall_mem_cons.mpr ⟨(ok_z (by decide)), (List.forall_mem_cons.mpr ⟨(ok_c (by decide) (by decide)), (List.forall_mem_cons.mpr ⟨(ok_c (by decide) (by decide)), (List.forall_mem_cons.mpr ⟨(ok_c (by decide) (by decide)), (List.forall_mem_cons.mpr ⟨(ok_c (by decide) (by decide)), (List.forall_mem_cons.mpr ⟨(ok_c (by decide) (by decide)), (List.forall_mem_cons.mpr ⟨(ok_c (by decide) (by decide)), (List.forall_mem_cons.mpr ⟨(ok_c (by decide) (by decide)), (List.forall_mem_cons.mpr ⟨(ok_c (by decide) (by decide)), (List.forall_mem_cons.mpr ⟨(ok_c (by decide) (by decide)), (List.forall_mem_cons.mpr ⟨(ok_c (by decide) (by decide)), (List.forall_mem_cons.mpr ⟨(ok_c (by decide) (by decide)), (List.forall_mem_cons.mpr ⟨(ok_l (by decide) (by decide)), (List.forall_mem_cons.mpr ⟨(ok_c (by decide) (by decide)), (List.forall_mem_cons.mpr ⟨(ok_c (by decide) (by decide)), (List.forall_mem_cons.mpr ⟨(ok_c (by decide) (by decide)), (List.forall_mem_cons.mpr ⟨ok_sc, (List.forall_mem_cons.mpr ⟨(ok_z (by decide)), (List.forall_mem_cons.mpr ⟨ok_sc, (List.forall_mem_cons.mpr ⟨(ok_z (by decide)), (List.forall_mem_cons.mpr ⟨(ok_z (by decide)), (List.forall_mem_cons.mpr ⟨(ok_c (by decide) (by decide)), (List.forall_mem_cons.mpr ⟨(ok_c (by decide) (by decide)), (List.forall_mem_cons.mpr ⟨(ok_c (by decide) (by decide)), (List.forall_mem_cons.mpr ⟨(ok_c (by decide) (by decide)), (List.forall_mem_cons.mpr ⟨(ok_c (by decide) (by decide)), (List.forall_mem_cons.mpr ⟨(ok_c (by decide) (by decide)), (List.forall_mem_cons.mpr ⟨(ok_c (by decide) (by decide)), (List.forall_mem_cons.mpr ⟨(ok_c (by decide) (by decide)), (List.forall_mem_cons.mpr ⟨(ok_c (by decide) (by decide)), (List.forall_mem_cons.mpr ⟨(ok_c (by decide) (by decide)), (List.forall_mem_cons.mpr ⟨(ok_c (by decide) (by decide)), (List.forall_mem_cons.mpr ⟨(ok_l (by decide) (by decide)), (List.forall_mem_cons.mpr ⟨(ok_c (by decide) (by decide)), (List.forall_mem_cons.mpr ⟨(ok_c (by decide) (by decide)), (List.forall_mem_cons.mpr ⟨(ok_c (by decide) (by decide)), (List.forall_mem_cons.mpr ⟨ok_sc, (List.forall_mem_cons.mpr ⟨(ok_z (by decide)), (List.forall_mem_cons.mpr ⟨ok_sc, (List.forall_mem_cons.mpr ⟨(ok_z (by decide)), (List.forall_mem_cons.mpr ⟨(ok_z (by decide)), (List.forall_mem_cons.mpr ⟨(ok_c (by decide) (by decide)), (List.forall_mem_cons.mpr ⟨(ok_c (by decide) (by decide)), (List.forall_mem_cons.mpr ⟨(ok_c (by decide) (by decide)), (List.forall_mem_cons.mpr ⟨(ok_c (by decide) (by decide)), (List.forall_mem_cons.mpr ⟨(ok_c (by decide) (by decide)), (List.forall_mem_cons.mpr ⟨(ok_c (by decide) (by decide)), (List.forall_mem_cons.mpr ⟨(ok_c (by decide) (by decide)), (List.forall_mem_cons.mpr ⟨(ok_c (by decide) (by decide)), (List.forall_mem_cons.mpr ⟨(ok_c (by decide) (by decide)), (List.forall_mem_cons.mpr ⟨(ok_c (by decide) (by decide)), (List.forall_mem_cons.mpr ⟨(ok_c (by decide) (by decide)), (List.forall_mem_cons.mpr ⟨(ok_l (by decide) (by decide)), (List.forall_mem_cons.mpr ⟨(ok_c (by decide) (by decide)), (List.forall_mem_cons.mpr ⟨(ok_c (by decide) (by decide)), (List.forall_mem_cons.mpr ⟨(ok_c (by decide) (by decide)), (List.forall_mem_cons.mpr ⟨ok_sc, (List.forall_mem_cons.mpr ⟨(ok_z (by decide)), (List.forall_mem_cons.mpr ⟨ok_sc, (List.forall_mem_cons.mpr ⟨(ok_l (by decide) (by decide)), (List.forall_mem_cons.mpr ⟨(ok_c (by decide) (by decide)), (List.forall_mem_cons.mpr ⟨(ok_l (by decide) (by decide)), (List.forall_mem_cons.mpr ⟨(ok_c (by decide) (by decide)), (List.forall_mem_cons.mpr ⟨(ok_l (by decide) (by decide)), (List.forall_mem_cons.mpr ⟨(ok_c (by decide) (by decide)), (List.forall_mem_cons.mpr ⟨(ok_l (by decide) (by decide)), (List.forall_mem_cons.mpr ⟨(ok_c (by decide) (by decide)), (List.forall_mem_cons.mpr ⟨(ok_l (by decide) (by decide)), (List.forall_mem_cons.mpr ⟨ok_kn, (List.forall_mem_cons.mpr ⟨ok_kn, (List.forall_mem_cons.mpr ⟨ok_k3, (List.forall_mem_cons.mpr ⟨(ok_c (by decide) (by decide)), (List.forall_mem_cons.mpr ⟨(ok_c (by decide) (by decide)), (List.forall_mem_cons.mpr ⟨(ok_c (by decide) (by decide)), (List.forall_mem_cons.mpr ⟨ok_as, (List.forall_mem_cons.mpr ⟨(ok_c (by decide) (by decide)), (List.forall_mem_cons.mpr ⟨(ok_c (by decide) (by decide)), (List.forall_mem_cons.mpr ⟨(ok_c (by decide) (by decide)), (List.forall_mem_cons.mpr ⟨(ok_c (by decide) (by decide)), (List.forall_mem_cons.mpr ⟨(ok_c (by decide) (by decide)), (List.forall_mem_cons.mpr ⟨(ok_c (by decide) (by decide)), (List.forall_mem_cons.mpr ⟨(ok_c (by decide) (by decide)), (List.forall_mem_cons.mpr ⟨(ok_c (by decide) (by decide)), (List.forall_mem_cons.mpr ⟨(ok_c (by decide) (by decide)), (List.forall_mem_cons.mpr ⟨ok_148, (List.forall_mem_cons.mpr ⟨(ok_c (by decide) (by decide)), (List.forall_mem_cons.mpr ⟨(ok_c (by decide) (by decide)), (List.forall_mem_cons.mpr ⟨(ok_c (by decide) (by decide)), (fun _ h => absurd h List.not_mem_nil)⟩)⟩)⟩)⟩)⟩)⟩)⟩)⟩)⟩)⟩)⟩)⟩)⟩)⟩)⟩)⟩)⟩)⟩)⟩)⟩)⟩)⟩)⟩)⟩)⟩)⟩)⟩)⟩)⟩)⟩)⟩)⟩)⟩)⟩)⟩)⟩)⟩)⟩)⟩)⟩)⟩)⟩)⟩)⟩)⟩)⟩)⟩)⟩)⟩)⟩)⟩)⟩)⟩)⟩)⟩)⟩)⟩)⟩)⟩)⟩)⟩)⟩)⟩)⟩)⟩)⟩)⟩)⟩)⟩)⟩)⟩)⟩)⟩)⟩)⟩)⟩)⟩)⟩)⟩)⟩)⟩)⟩)⟩)⟩)⟩)⟩)⟩)⟩)⟩)⟩)⟩)⟩)⟩)⟩)⟩)⟩)⟩)⟩)⟩)⟩)⟩)⟩)⟩)⟩)⟩)⟩)⟩)⟩)⟩)⟩)⟩)⟩)⟩)⟩)⟩)⟩)⟩)⟩)⟩)⟩)⟩)⟩)⟩)⟩)⟩)⟩)⟩)⟩)⟩)⟩)⟩)⟩)⟩)⟩)⟩)⟩)⟩)⟩)⟩)⟩)⟩)⟩)⟩)⟩)⟩)⟩)⟩)⟩)⟩)⟩)⟩)⟩)
set_option maxRecDepth 20000 in
theorem len_all : Bs.length = M0l.length := by decide +kernel
theorem inv0 : Inv M0 := fun k j => by
  by_cases hk : k < Bs.length
  · have h1 : Bs[k]? = some (Bs[k]) := List.getElem?_eq_getElem hk
    have hk2 : k < M0l.length := by rw [← len_all]; exact hk
    have h2 : M0l[k]? = some (M0l[k]) := List.getElem?_eq_getElem hk2
    have h3 : (Bs[k], M0l[k]) ∈ Bs.zip M0l := List.mem_of_getElem? (i := k) (by rw [List.getElem?_zip_eq_some]; exact ⟨h1, h2⟩)
    have h4 := ok_all _ h3 j
    have e1 : Bd k j = Bs[k] j := by unfold Bd; rw [List.getD_eq_getElem?_getD, h1]; rfl
    have e2 : M0 k j = M0l[k] j := by unfold M0; rw [List.getD_eq_getElem?_getD, h2]; rfl
    rw [e1, e2]; exact h4
  · have e1 : Bd k j = anyI := by unfold Bd; rw [List.getD_eq_getElem?_getD, List.getElem?_eq_none (by omega)]; rfl
    have e2 : M0 k j = 0 := by unfold M0; rw [List.getD_eq_getElem?_getD, List.getElem?_eq_none (by rw [← len_all]; omega)]; rfl
    rw [e1, e2]; decide
theorem kn_zero {f : Nat → Int} (h : ∀ j, f j = 0) : Kn f := ⟨fun k h1 h2 => by rw [h 6] at h2; omega, fun h2 => by rw [h 2] at h2; omega⟩
theorem iw0 : Iw M0 := ⟨inv0, kn_zero (fun _ => rfl), kn_zero (fun _ => rfl), kn_zero (fun _ => rfl), kn_zero (fun _ => rfl)⟩
theorem e148 : ((upd (upd (upd (upd (fun _ => 0) 0 (-1)) 1 (-1)) 2 (-1)) 3 (-1)) : Nat → Int32) = fun i => Int32.ofInt (M0 148 i) := by
  funext i
  show _ = Int32.ofInt (if i < 4 then -1 else 0)
  unfold upd
  by_cases h3 : i = 3
  · subst h3; rfl
  by_cases h2 : i = 2
  · subst h2; rfl
  by_cases h1 : i = 1
  · subst h1; rfl
  by_cases h0 : i = 0
  · subst h0; rfl
  rw [if_neg (show ¬ i < 4 by omega)]
  simp [h0, h1, h2, h3]
theorem e43 (ad : Nat → Nat) (a63 : Nat) (a83 : Nat) (a103 : Nat) (h0 : ad 63 = a63) (h1 : ad 83 = a83) (h2 : ad 103 = a103) : ((va_up (va_up (va_up (fun _ => none) 0 (some a63)) 1 (some a83)) 2 (some a103)) : Nat → Option Nat) = fun i => (([63, 83, 103] : List Nat)[i]?).map ad := by
  funext i
  unfold va_up
  by_cases c2 : i = 2
  · subst c2; simp [h2]
  by_cases c1 : i = 1
  · subst c1; simp [h1]
  by_cases c0 : i = 0
  · subst c0; simp [h0]
  simp [c0, c1, c2]
  rw [List.getElem?_eq_none (by simp; omega)]; rfl
theorem e44 (ad : Nat → Nat) (a123 : Nat) (a125 : Nat) (a127 : Nat) (a129 : Nat) (h0 : ad 123 = a123) (h1 : ad 125 = a125) (h2 : ad 127 = a127) (h3 : ad 129 = a129) : ((va_up (va_up (va_up (va_up (fun _ => none) 0 (some a123)) 1 (some a125)) 2 (some a127)) 3 (some a129)) : Nat → Option Nat) = fun i => (([123, 125, 127, 129] : List Nat)[i]?).map ad := by
  funext i
  unfold va_up
  by_cases c3 : i = 3
  · subst c3; simp [h3]
  by_cases c2 : i = 2
  · subst c2; simp [h2]
  by_cases c1 : i = 1
  · subst c1; simp [h1]
  by_cases c0 : i = 0
  · subst c0; simp [h0]
  simp [c0, c1, c2, c3]
  rw [List.getElem?_eq_none (by simp; omega)]; rfl
set_option maxHeartbeats 8000000 in
set_option maxRecDepth 100000 in
theorem wld0 (cy : Nat → ClassId) (T1 T2 : Nat → Nat) (a0 a1 a2 a3 a4 a5 a6 a7 a8 a9 a10 a11 a12 a13 a14 a15 a16 a17 a18 a19 a20 a21 a22 a23 a24 a25 a26 a27 a28 a29 a30 a31 a32 a33 a34 a35 a36 a37 a38 a39 a40 a41 a42 a43 a44 a45 a46 a47 a48 a49 a50 a51 a52 a53 a54 a55 a56 a57 a58 a59 a60 a61 a62 a63 a64 a65 a66 a67 a68 a69 a70 a71 a72 a73 a74 a75 a76 a77 a78 a79 a80 a81 a82 a83 a84 a85 a86 a87 a88 a89 a90 a91 a92 a93 a94 a95 a96 a97 a98 a99 a100 a101 a102 a103 a104 a105 a106 a107 a108 a109 a110 a111 a112 a113 a114 a115 a116 a117 a118 a119 a120 a121 a122 a123 a124 a125 a126 a127 a128 a129 a130 a131 a132 a133 a134 a135 a136 a137 a138 a139 a140 a141 a142 a143 a144 a145 a146 a147 a148 a149 a150 a151 : Nat) : ([(a0, .inr (11, [.ref a1, .int 0, .ref a2, .ref a18, .ref a35, .ref a40, .ref a42, .ref a43, .ref a44, .ref a45, .ref a49, .ref a57, .ref a58, .int 0])), (a1, .inl (cy 0, 900, .inl (fun _ => 0))), (a2, .inr (9, [.int 0, .int 0, .int 0, .int 0, .int 0, .ref a3, .ref a4, .ref a5, .ref a6, .ref a7, .ref a8, .ref a9, .int 0, .ref a10, .ref a11, .ref a12, .ref a13, .ref a14])), (a3, .inl (cy 1, 10, .inl (fun _ => 0))), (a4, .inl (cy 1, 10, .inl (fun _ => 0))), (a5, .inl (cy 1, 100, .inl (fun _ => 0))), (a6, .inl (cy 1, 8, .inl (fun _ => 0))), (a7, .inl (cy 1, 8, .inl (fun _ => 0))), (a8, .inl (cy 1, 8, .inl (fun _ => 0))), (a9, .inl (cy 1, 8, .inl (fun _ => 0))), (a10, .inl (cy 1, 6, .inl (fun _ => 0))), (a11, .inl (cy 1, 6, .inl (fun _ => 0))), (a12, .inl (cy 1, 6, .inl (fun _ => 0))), (a13, .inl (cy 1, 6, .inl (fun _ => 0))), (a14, .inr (2, [.ref a15, .int 0, .int 1, .ref a16, .ref a17])), (a15, .inl (cy 1, 900, .inl (fun _ => 0))), (a16, .inl (cy 1, 64, .inl (fun _ => 0))), (a17, .inl (cy 1, 8, .inl (fun _ => 0))), (a18, .inr (6, [.ref a19, .int 0, .int (-1), .ref a1, .int 0, .int 0, .int 0, .int 0, .int 0])), (a19, .inr (9, [.int 0, .int 0, .int 0, .int 0, .int 0, .ref a20, .ref a21, .ref a22, .ref a23, .ref a24, .ref a25, .ref a26, .int 0, .ref a27, .ref a28, .ref a29, .ref a30, .ref a31])), (a20, .inl (cy 1, 10, .inl (fun _ => 0))), (a21, .inl (cy 1, 10, .inl (fun _ => 0))), (a22, .inl (cy 1, 100, .inl (fun _ => 0))), (a23, .inl (cy 1, 8, .inl (fun _ => 0))), (a24, .inl (cy 1, 8, .inl (fun _ => 0))), (a25, .inl (cy 1, 8, .inl (fun _ => 0))), (a26, .inl (cy 1, 8, .inl (fun _ => 0))), (a27, .inl (cy 1, 6, .inl (fun _ => 0))), (a28, .inl (cy 1, 6, .inl (fun _ => 0))), (a29, .inl (cy 1, 6, .inl (fun _ => 0))), (a30, .inl (cy 1, 6, .inl (fun _ => 0))), (a31, .inr (2, [.ref a32, .int 0, .int 1, .ref a33, .ref a34])), (a32, .inl (cy 1, 900, .inl (fun _ => 0))), (a33, .inl (cy 1, 64, .inl (fun _ => 0))), (a34, .inl (cy 1, 8, .inl (fun _ => 0))), (a35, .inr (7, [.ref a2, .ref a36, .ref a37, .ref a38, .ref a39, .int 0, .int 0])), (a36, .inl (cy 1, 8, .inl (fun _ => 0))), (a37, .inl (cy 1, 8, .inl (fun _ => 0))), (a38, .inl (cy 1, 8, .inl (fun _ => 0))), (a39, .inl (cy 1, 8, .inl (fun _ => 0))), (a40, .inr (4, [.int 0, .int 0, .ref a41])), (a41, .inl (cy 1, 408, .inl (fun _ => 0))), (a42, .inl (cy 1, 34, .inl (fun _ => 0))), (a43, .inl (cy 4, 3, .inr (.inr (.inr (.inr (va_up (va_up (va_up (fun _ => none) 0 (some a63)) 1 (some a83)) 2 (some a103))))))), (a44, .inl (cy 5, 4, .inr (.inr (.inr (.inr (va_up (va_up (va_up (va_up (fun _ => none) 0 (some a123)) 1 (some a125)) 2 (some a127)) 3 (some a129))))))), (a45, .inr (5, [.ref a2, .ref a35, .ref a46, .int 0, .int 0, .ref a47, .ref a48, .int 0, .int 0])), (a46, .inl (cy 1, 72, .inl (fun _ => 0))), (a47, .inl (cy 1, 8, .inl (fun _ => 0))), (a48, .inl (cy 1, 8, .inl (fun _ => 0))), (a49, .inr (0, [.ref a2, .ref a35, .ref a50, .ref a51, .ref a52, .int 0, .ref a53, .int 0, .int 0, .ref a54, .ref a55, .ref a56, .int 0])), (a50, .inl (cy 1, 64, .inl (fun _ => 0))), (a51, .inl (cy 1, 8, .inl (fun _ => 0))), (a52, .inl (cy 2, 4, .inr (.inl (fun _ => 0)))), (a53, .inl (cy 1, 4, .inl (fun _ => 0))), (a54, .inl (cy 1, 8, .inl (fun _ => 0))), (a55, .inl (cy 1, 6, .inl (fun _ => 0))), (a56, .inl (cy 1, 6, .inl (fun _ => 0))), (a57, .inr (3, [.ref a2, .ref a35])), (a58, .inr (8, [.ref a2, .ref a35, .ref a59, .int 0, .ref a60, .ref a61, .ref a62, .int 0, .int 0])), (a59, .inl (cy 1, 10, .inl (fun _ => 0))), (a60, .inl (cy 1, 10, .inl (fun _ => 0))), (a61, .inl (cy 1, 2048, .inl (fun _ => 0))), (a62, .inl (cy 1, 8, .inl (fun _ => 0))), (a63, .inr (1, [.int 0, .ref a64, .ref a80, .ref a81])), (a64, .inr (9, [.int 0, .int 0, .int 0, .int 0, .int 0, .ref a65, .ref a66, .ref a67, .ref a68, .ref a69, .ref a70, .ref a71, .int 0, .ref a72, .ref a73, .ref a74, .ref a75, .ref a76])), (a65, .inl (cy 1, 10, .inl (fun _ => 0))), (a66, .inl (cy 1, 10, .inl (fun _ => 0))), (a67, .inl (cy 1, 100, .inl (fun _ => 0))), (a68, .inl (cy 1, 8, .inl (fun _ => 0))), (a69, .inl (cy 1, 8, .inl (fun _ => 0))), (a70, .inl (cy 1, 8, .inl (fun _ => 0))), (a71, .inl (cy 1, 8, .inl (fun _ => 0))), (a72, .inl (cy 1, 6, .inl (fun _ => 0))), (a73, .inl (cy 1, 6, .inl (fun _ => 0))), (a74, .inl (cy 1, 6, .inl (fun _ => 0))), (a75, .inl (cy 1, 6, .inl (fun _ => 0))), (a76, .inr (2, [.ref a77, .int 0, .int 1, .ref a78, .ref a79])), (a77, .inl (cy 1, 900, .inl (fun _ => 0))), (a78, .inl (cy 1, 64, .inl (fun _ => 0))), (a79, .inl (cy 1, 8, .inl (fun _ => 0))), (a80, .inl (cy 1, 34, .inl (fun _ => 0))), (a81, .inr (4, [.int 0, .int 0, .ref a82])), (a82, .inl (cy 1, 408, .inl (fun _ => 0))), (a83, .inr (1, [.int 0, .ref a84, .ref a100, .ref a101])), (a84, .inr (9, [.int 0, .int 0, .int 0, .int 0, .int 0, .ref a85, .ref a86, .ref a87, .ref a88, .ref a89, .ref a90, .ref a91, .int 0, .ref a92, .ref a93, .ref a94, .ref a95, .ref a96])), (a85, .inl (cy 1, 10, .inl (fun _ => 0))), (a86, .inl (cy 1, 10, .inl (fun _ => 0))), (a87, .inl (cy 1, 100, .inl (fun _ => 0))), (a88, .inl (cy 1, 8, .inl (fun _ => 0))), (a89, .inl (cy 1, 8, .inl (fun _ => 0))), (a90, .inl (cy 1, 8, .inl (fun _ => 0))), (a91, .inl (cy 1, 8, .inl (fun _ => 0))), (a92, .inl (cy 1, 6, .inl (fun _ => 0))), (a93, .inl (cy 1, 6, .inl (fun _ => 0))), (a94, .inl (cy 1, 6, .inl (fun _ => 0))), (a95, .inl (cy 1, 6, .inl (fun _ => 0))), (a96, .inr (2, [.ref a97, .int 0, .int 1, .ref a98, .ref a99])), (a97, .inl (cy 1, 900, .inl (fun _ => 0))), (a98, .inl (cy 1, 64, .inl (fun _ => 0))), (a99, .inl (cy 1, 8, .inl (fun _ => 0))), (a100, .inl (cy 1, 34, .inl (fun _ => 0))), (a101, .inr (4, [.int 0, .int 0, .ref a102])), (a102, .inl (cy 1, 408, .inl (fun _ => 0))), (a103, .inr (1, [.int 0, .ref a104, .ref a120, .ref a121])), (a104, .inr (9, [.int 0, .int 0, .int 0, .int 0, .int 0, .ref a105, .ref a106, .ref a107, .ref a108, .ref a109, .ref a110, .ref a111, .int 0, .ref a112, .ref a113, .ref a114, .ref a115, .ref a116])), (a105, .inl (cy 1, 10, .inl (fun _ => 0))), (a106, .inl (cy 1, 10, .inl (fun _ => 0))), (a107, .inl (cy 1, 100, .inl (fun _ => 0))), (a108, .inl (cy 1, 8, .inl (fun _ => 0))), (a109, .inl (cy 1, 8, .inl (fun _ => 0))), (a110, .inl (cy 1, 8, .inl (fun _ => 0))), (a111, .inl (cy 1, 8, .inl (fun _ => 0))), (a112, .inl (cy 1, 6, .inl (fun _ => 0))), (a113, .inl (cy 1, 6, .inl (fun _ => 0))), (a114, .inl (cy 1, 6, .inl (fun _ => 0))), (a115, .inl (cy 1, 6, .inl (fun _ => 0))), (a116, .inr (2, [.ref a117, .int 0, .int 1, .ref a118, .ref a119])), (a117, .inl (cy 1, 900, .inl (fun _ => 0))), (a118, .inl (cy 1, 64, .inl (fun _ => 0))), (a119, .inl (cy 1, 8, .inl (fun _ => 0))), (a120, .inl (cy 1, 34, .inl (fun _ => 0))), (a121, .inr (4, [.int 0, .int 0, .ref a122])), (a122, .inl (cy 1, 408, .inl (fun _ => 0))), (a123, .inr (10, [.int (-1), .int 0, .ref a124])), (a124, .inl (cy 2, 30, .inr (.inl (fun _ => 0)))), (a125, .inr (10, [.int (-1), .int 0, .ref a126])), (a126, .inl (cy 2, 30, .inr (.inl (fun _ => 0)))), (a127, .inr (10, [.int (-1), .int 0, .ref a128])), (a128, .inl (cy 2, 30, .inr (.inl (fun _ => 0)))), (a129, .inr (10, [.int (-1), .int 0, .ref a130])), (a130, .inl (cy 2, 30, .inr (.inl (fun _ => 0)))), (a131, .inr (12, [.ref a132, .ref a133, .ref a134, .ref a135, .int 0, .ref a136, .int 0, .int 0, .int 0, .int 0, .int 0, .int 0, .int 0, .int 0, .int 0, .int (-1), .int 0, .ref a137, .ref a138, .int 0, .ref a139, .ref a140, .int 0, .int 0, .int 0, .int 0, .int 0, .int 0, .int 0, .ref a141, .ref a142, .int 0, .int 0, .ref a143, .ref a144, .int 0, .int 0, .ref a145, .ref a146, .ref a147, .int 0, .ref a148, .ref a149, .ref a150])), (a132, .inl (cy 1, 1300, .inl (fun _ => 0))), (a133, .inl (cy 1, 1300, .inl (fun _ => 0))), (a134, .inl (cy 1, 3900, .inl (fun _ => 0))), (a135, .inl (cy 3, 3, .inl (fun _ => 0))), (a136, .inl (cy 1, 900, .inl (fun _ => 0))), (a137, .inl (cy 1, 64, .inl (fun _ => 0))), (a138, .inl (cy 1, 18, .inl (fun _ => 0))), (a139, .inl (cy 1, 8, .inl (fun _ => 0))), (a140, .inl (cy 1, 8, .inl (fun _ => 0))), (a141, .inl (cy 1, 6, .inl (fun _ => 0))), (a142, .inl (cy 1, 6, .inl (fun _ => 0))), (a143, .inl (cy 1, 8, .inl (fun _ => 0))), (a144, .inl (cy 1, 8, .inl (fun _ => 0))), (a145, .inl (cy 1, 10, .inl (fun _ => 0))), (a146, .inl (cy 1, 4, .inl (fun _ => 0))), (a147, .inl (cy 1, 4, .inl (fun _ => 0))), (a148, .inl (cy 1, 4, .inl (upd (upd (upd (upd (fun _ => 0) 0 (-1)) 1 (-1)) 2 (-1)) 3 (-1)))), (a149, .inl (cy 1, 4, .inl (fun _ => 0))), (a150, .inl (cy 2, 120, .inr (.inl (fun _ => 0)))), (a151, .inl (cy 2, 1, .inr (.inl (fun _ => 0))))] : va_W) = wld (adF [a0, a1, a2, a3, a4, a5, a6, a7, a8, a9, a10, a11, a12, a13, a14, a15, a16, a17, a18, a19, a20, a21, a22, a23, a24, a25, a26, a27, a28, a29, a30, a31, a32, a33, a34, a35, a36, a37, a38, a39, a40, a41, a42, a43, a44, a45, a46, a47, a48, a49, a50, a51, a52, a53, a54, a55, a56, a57, a58, a59, a60, a61, a62, a63, a64, a65, a66, a67, a68, a69, a70, a71, a72, a73, a74, a75, a76, a77, a78, a79, a80, a81, a82, a83, a84, a85, a86, a87, a88, a89, a90, a91, a92, a93, a94, a95, a96, a97, a98, a99, a100, a101, a102, a103, a104, a105, a106, a107, a108, a109, a110, a111, a112, a113, a114, a115, a116, a117, a118, a119, a120, a121, a122, a123, a124, a125, a126, a127, a128, a129, a130, a131, a132, a133, a134, a135, a136, a137, a138, a139, a140, a141, a142, a143, a144, a145, a146, a147, a148, a149, a150, a151] T1 T2) cy M0 := by
  rw [e148, e43 (adF [a0, a1, a2, a3, a4, a5, a6, a7, a8, a9, a10, a11, a12, a13, a14, a15, a16, a17, a18, a19, a20, a21, a22, a23, a24, a25, a26, a27, a28, a29, a30, a31, a32, a33, a34, a35, a36, a37, a38, a39, a40, a41, a42, a43, a44, a45, a46, a47, a48, a49, a50, a51, a52, a53, a54, a55, a56, a57, a58, a59, a60, a61, a62, a63, a64, a65, a66, a67, a68, a69, a70, a71, a72, a73, a74, a75, a76, a77, a78, a79, a80, a81, a82, a83, a84, a85, a86, a87, a88, a89, a90, a91, a92, a93, a94, a95, a96, a97, a98, a99, a100, a101, a102, a103, a104, a105, a106, a107, a108, a109, a110, a111, a112, a113, a114, a115, a116, a117, a118, a119, a120, a121, a122, a123, a124, a125, a126, a127, a128, a129, a130, a131, a132, a133, a134, a135, a136, a137, a138, a139, a140, a141, a142, a143, a144, a145, a146, a147, a148, a149, a150, a151] T1 T2) a63 a83 a103 rfl rfl rfl, e44 (adF [a0, a1, a2, a3, a4, a5, a6, a7, a8, a9, a10, a11, a12, a13, a14, a15, a16, a17, a18, a19, a20, a21, a22, a23, a24, a25, a26, a27, a28, a29, a30, a31, a32, a33, a34, a35, a36, a37, a38, a39, a40, a41, a42, a43, a44, a45, a46, a47, a48, a49, a50, a51, a52, a53, a54, a55, a56, a57, a58, a59, a60, a61, a62, a63, a64, a65, a66, a67, a68, a69, a70, a71, a72, a73, a74, a75, a76, a77, a78, a79, a80, a81, a82, a83, a84, a85, a86, a87, a88, a89, a90, a91, a92, a93, a94, a95, a96, a97, a98, a99, a100, a101, a102, a103, a104, a105, a106, a107, a108, a109, a110, a111, a112, a113, a114, a115, a116, a117, a118, a119, a120, a121, a122, a123, a124, a125, a126, a127, a128, a129, a130, a131, a132, a133, a134, a135, a136, a137, a138, a139, a140, a141, a142, a143, a144, a145, a146, a147, a148, a149, a150, a151] T1 T2) a123 a125 a127 a129 rfl rfl rfl rfl]
  rfl
theorem ad_1 (ls : List Nat) (T1 T2 : Nat → Nat) : ∀ i, i < 1000 → adF ls T1 T2 (1000 + i) = T1 i := fun i h => by
  unfold adF; rw [if_neg (by omega), if_pos (by omega), show 1000 + i - 1000 = i by omega]
theorem ad_2 (ls : List Nat) (T1 T2 : Nat → Nat) : ∀ i, adF ls T1 T2 (2000 + i) = T2 i := fun i => by
  unfold adF; rw [if_neg (by omega), if_neg (by omega), show 2000 + i - 2000 = i by omega]
