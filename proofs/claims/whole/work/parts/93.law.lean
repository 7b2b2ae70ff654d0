/-! ===== THE LAW: its calls ===== -/
theorem bw_238 : Cond.code yX6_person cX6_person 3 (some .int) ∈ BW := bw_i 238 (by decide +kernel) (by decide +kernel)
theorem no_X6_person : NameOK yX6_person 2 := by unfold NameOK; decide +kernel
theorem bw_235 : Cond.methodLink RL 13 yX6_person ∈ BW := bw_i 235 (by decide +kernel) (by decide +kernel)
theorem bw_236 : Cond.instanceMethod yX6_person ∈ BW := bw_i 236 (by decide +kernel) (by decide +kernel)
theorem bw_237 : Cond.selects RX6 yX6_person yX6_person ∈ BW := bw_i 237 (by decide +kernel) (by decide +kernel)
theorem bw_793 : Cond.code yX7_person cX7_person 4 (some .int) ∈ BW := bw_i 793 (by decide +kernel) (by decide +kernel)
theorem no_X7_person : NameOK yX7_person 2 := by unfold NameOK; decide +kernel
theorem bw_790 : Cond.methodLink RL 17 yX7_person ∈ BW := bw_i 790 (by decide +kernel) (by decide +kernel)
theorem bw_791 : Cond.instanceMethod yX7_person ∈ BW := bw_i 791 (by decide +kernel) (by decide +kernel)
theorem bw_792 : Cond.selects RX7 yX7_person yX7_person ∈ BW := bw_i 792 (by decide +kernel) (by decide +kernel)
theorem bw_257 : Cond.code yX6_rule cX6_rule 3 (some .int) ∈ BW := bw_i 257 (by decide +kernel) (by decide +kernel)
theorem no_X6_rule : NameOK yX6_rule 1 := by unfold NameOK; decide +kernel
theorem bw_254 : Cond.methodLink RL 18 yX6_rule ∈ BW := bw_i 254 (by decide +kernel) (by decide +kernel)
theorem bw_255 : Cond.instanceMethod yX6_rule ∈ BW := bw_i 255 (by decide +kernel) (by decide +kernel)
theorem bw_256 : Cond.selects RX6 yX6_rule yX6_rule ∈ BW := bw_i 256 (by decide +kernel) (by decide +kernel)
theorem bw_802 : Cond.code yX7_rule cX7_rule 3 (some .int) ∈ BW := bw_i 802 (by decide +kernel) (by decide +kernel)
theorem no_X7_rule : NameOK yX7_rule 1 := by unfold NameOK; decide +kernel
theorem bw_799 : Cond.methodLink RL 22 yX7_rule ∈ BW := bw_i 799 (by decide +kernel) (by decide +kernel)
theorem bw_800 : Cond.instanceMethod yX7_rule ∈ BW := bw_i 800 (by decide +kernel) (by decide +kernel)
theorem bw_801 : Cond.selects RX7 yX7_rule yX7_rule ∈ BW := bw_i 801 (by decide +kernel) (by decide +kernel)
theorem bw_261 : Cond.code yX6_wants cX6_wants 3 (some .int) ∈ BW := bw_i 261 (by decide +kernel) (by decide +kernel)
theorem no_X6_wants : NameOK yX6_wants 2 := by unfold NameOK; decide +kernel
theorem bw_258 : Cond.methodLink RL 23 yX6_wants ∈ BW := bw_i 258 (by decide +kernel) (by decide +kernel)
theorem bw_259 : Cond.instanceMethod yX6_wants ∈ BW := bw_i 259 (by decide +kernel) (by decide +kernel)
theorem bw_260 : Cond.selects RX6 yX6_wants yX6_wants ∈ BW := bw_i 260 (by decide +kernel) (by decide +kernel)
theorem bw_806 : Cond.code yX7_wants cX7_wants 3 (some .int) ∈ BW := bw_i 806 (by decide +kernel) (by decide +kernel)
theorem no_X7_wants : NameOK yX7_wants 2 := by unfold NameOK; decide +kernel
theorem bw_803 : Cond.methodLink RL 26 yX7_wants ∈ BW := bw_i 803 (by decide +kernel) (by decide +kernel)
theorem bw_804 : Cond.instanceMethod yX7_wants ∈ BW := bw_i 804 (by decide +kernel) (by decide +kernel)
theorem bw_805 : Cond.selects RX7 yX7_wants yX7_wants ∈ BW := bw_i 805 (by decide +kernel) (by decide +kernel)
theorem bw_277 : Cond.code yX6_of cX6_of 3 (some .int) ∈ BW := bw_i 277 (by decide +kernel) (by decide +kernel)
theorem no_X6_of : NameOK yX6_of 2 := by unfold NameOK; decide +kernel
theorem bw_274 : Cond.methodLink RL 27 yX6_of ∈ BW := bw_i 274 (by decide +kernel) (by decide +kernel)
theorem bw_275 : Cond.instanceMethod yX6_of ∈ BW := bw_i 275 (by decide +kernel) (by decide +kernel)
theorem bw_276 : Cond.selects RX6 yX6_of yX6_of ∈ BW := bw_i 276 (by decide +kernel) (by decide +kernel)
theorem bw_818 : Cond.code yX7_of cX7_of 3 (some .int) ∈ BW := bw_i 818 (by decide +kernel) (by decide +kernel)
theorem no_X7_of : NameOK yX7_of 2 := by unfold NameOK; decide +kernel
theorem bw_815 : Cond.methodLink RL 30 yX7_of ∈ BW := bw_i 815 (by decide +kernel) (by decide +kernel)
theorem bw_816 : Cond.instanceMethod yX7_of ∈ BW := bw_i 816 (by decide +kernel) (by decide +kernel)
theorem bw_817 : Cond.selects RX7 yX7_of yX7_of ∈ BW := bw_i 817 (by decide +kernel) (by decide +kernel)
theorem bw_290 : Cond.code yX6_at cX6_at 3 (some .int) ∈ BW := bw_i 290 (by decide +kernel) (by decide +kernel)
theorem no_X6_at : NameOK yX6_at 2 := by unfold NameOK; decide +kernel
theorem bw_287 : Cond.methodLink RL 31 yX6_at ∈ BW := bw_i 287 (by decide +kernel) (by decide +kernel)
theorem bw_288 : Cond.instanceMethod yX6_at ∈ BW := bw_i 288 (by decide +kernel) (by decide +kernel)
theorem bw_289 : Cond.selects RX6 yX6_at yX6_at ∈ BW := bw_i 289 (by decide +kernel) (by decide +kernel)
theorem bw_831 : Cond.code yX7_at cX7_at 4 (some .int) ∈ BW := bw_i 831 (by decide +kernel) (by decide +kernel)
theorem no_X7_at : NameOK yX7_at 2 := by unfold NameOK; decide +kernel
theorem bw_828 : Cond.methodLink RL 34 yX7_at ∈ BW := bw_i 828 (by decide +kernel) (by decide +kernel)
theorem bw_829 : Cond.instanceMethod yX7_at ∈ BW := bw_i 829 (by decide +kernel) (by decide +kernel)
theorem bw_830 : Cond.selects RX7 yX7_at yX7_at ∈ BW := bw_i 830 (by decide +kernel) (by decide +kernel)
theorem bw_317 : Cond.code yX6_type cX6_type 2 (some .int) ∈ BW := bw_i 317 (by decide +kernel) (by decide +kernel)
theorem no_X6_type : NameOK yX6_type 1 := by unfold NameOK; decide +kernel
theorem bw_314 : Cond.methodLink RL 35 yX6_type ∈ BW := bw_i 314 (by decide +kernel) (by decide +kernel)
theorem bw_315 : Cond.instanceMethod yX6_type ∈ BW := bw_i 315 (by decide +kernel) (by decide +kernel)
theorem bw_316 : Cond.selects RX6 yX6_type yX6_type ∈ BW := bw_i 316 (by decide +kernel) (by decide +kernel)
theorem bw_855 : Cond.code yX7_type cX7_type 2 (some .int) ∈ BW := bw_i 855 (by decide +kernel) (by decide +kernel)
theorem no_X7_type : NameOK yX7_type 1 := by unfold NameOK; decide +kernel
theorem bw_852 : Cond.methodLink RL 38 yX7_type ∈ BW := bw_i 852 (by decide +kernel) (by decide +kernel)
theorem bw_853 : Cond.instanceMethod yX7_type ∈ BW := bw_i 853 (by decide +kernel) (by decide +kernel)
theorem bw_854 : Cond.selects RX7 yX7_type yX7_type ∈ BW := bw_i 854 (by decide +kernel) (by decide +kernel)
theorem bw_325 : Cond.code yX6_college cX6_college 2 (some .int) ∈ BW := bw_i 325 (by decide +kernel) (by decide +kernel)
theorem no_X6_college : NameOK yX6_college 0 := by unfold NameOK; decide +kernel
theorem bw_322 : Cond.methodLink RL 39 yX6_college ∈ BW := bw_i 322 (by decide +kernel) (by decide +kernel)
theorem bw_323 : Cond.instanceMethod yX6_college ∈ BW := bw_i 323 (by decide +kernel) (by decide +kernel)
theorem bw_324 : Cond.selects RX6 yX6_college yX6_college ∈ BW := bw_i 324 (by decide +kernel) (by decide +kernel)
theorem bw_861 : Cond.code yX7_college cX7_college 4 (some .int) ∈ BW := bw_i 861 (by decide +kernel) (by decide +kernel)
theorem no_X7_college : NameOK yX7_college 0 := by unfold NameOK; decide +kernel
theorem bw_858 : Cond.methodLink RL 43 yX7_college ∈ BW := bw_i 858 (by decide +kernel) (by decide +kernel)
theorem bw_859 : Cond.instanceMethod yX7_college ∈ BW := bw_i 859 (by decide +kernel) (by decide +kernel)
theorem bw_860 : Cond.selects RX7 yX7_college yX7_college ∈ BW := bw_i 860 (by decide +kernel) (by decide +kernel)
theorem bw_466 : Cond.code yX6_count cX6_count 2 (some .int) ∈ BW := bw_i 466 (by decide +kernel) (by decide +kernel)
theorem no_X6_count : NameOK yX6_count 1 := by unfold NameOK; decide +kernel
theorem bw_463 : Cond.methodLink RL 44 yX6_count ∈ BW := bw_i 463 (by decide +kernel) (by decide +kernel)
theorem bw_464 : Cond.instanceMethod yX6_count ∈ BW := bw_i 464 (by decide +kernel) (by decide +kernel)
theorem bw_465 : Cond.selects RX6 yX6_count yX6_count ∈ BW := bw_i 465 (by decide +kernel) (by decide +kernel)
theorem bw_895 : Cond.code yX7_count cX7_count 4 (some .int) ∈ BW := bw_i 895 (by decide +kernel) (by decide +kernel)
theorem no_X7_count : NameOK yX7_count 1 := by unfold NameOK; decide +kernel
theorem bw_892 : Cond.methodLink RL 47 yX7_count ∈ BW := bw_i 892 (by decide +kernel) (by decide +kernel)
theorem bw_893 : Cond.instanceMethod yX7_count ∈ BW := bw_i 893 (by decide +kernel) (by decide +kernel)
theorem bw_894 : Cond.selects RX7 yX7_count yX7_count ∈ BW := bw_i 894 (by decide +kernel) (by decide +kernel)
theorem bw_487 : Cond.code yX6_days cX6_days 2 (some .int) ∈ BW := bw_i 487 (by decide +kernel) (by decide +kernel)
theorem no_X6_days : NameOK yX6_days 1 := by unfold NameOK; decide +kernel
theorem bw_484 : Cond.methodLink RL 48 yX6_days ∈ BW := bw_i 484 (by decide +kernel) (by decide +kernel)
theorem bw_485 : Cond.instanceMethod yX6_days ∈ BW := bw_i 485 (by decide +kernel) (by decide +kernel)
theorem bw_486 : Cond.selects RX6 yX6_days yX6_days ∈ BW := bw_i 486 (by decide +kernel) (by decide +kernel)
theorem bw_907 : Cond.code yX7_days cX7_days 4 (some .int) ∈ BW := bw_i 907 (by decide +kernel) (by decide +kernel)
theorem no_X7_days : NameOK yX7_days 1 := by unfold NameOK; decide +kernel
theorem bw_904 : Cond.methodLink RL 51 yX7_days ∈ BW := bw_i 904 (by decide +kernel) (by decide +kernel)
theorem bw_905 : Cond.instanceMethod yX7_days ∈ BW := bw_i 905 (by decide +kernel) (by decide +kernel)
theorem bw_906 : Cond.selects RX7 yX7_days yX7_days ∈ BW := bw_i 906 (by decide +kernel) (by decide +kernel)
theorem bw_527 : Cond.code yX6_talk cX6_talk 4 (some .int) ∈ BW := bw_i 527 (by decide +kernel) (by decide +kernel)
theorem no_X6_talk : NameOK yX6_talk 3 := by unfold NameOK; decide +kernel
theorem bw_524 : Cond.methodLink RL 52 yX6_talk ∈ BW := bw_i 524 (by decide +kernel) (by decide +kernel)
theorem bw_525 : Cond.instanceMethod yX6_talk ∈ BW := bw_i 525 (by decide +kernel) (by decide +kernel)
theorem bw_526 : Cond.selects RX6 yX6_talk yX6_talk ∈ BW := bw_i 526 (by decide +kernel) (by decide +kernel)
theorem bw_932 : Cond.code yX7_talk cX7_talk 4 (some .int) ∈ BW := bw_i 932 (by decide +kernel) (by decide +kernel)
theorem no_X7_talk : NameOK yX7_talk 3 := by unfold NameOK; decide +kernel
theorem bw_929 : Cond.methodLink RL 56 yX7_talk ∈ BW := bw_i 929 (by decide +kernel) (by decide +kernel)
theorem bw_930 : Cond.instanceMethod yX7_talk ∈ BW := bw_i 930 (by decide +kernel) (by decide +kernel)
theorem bw_931 : Cond.selects RX7 yX7_talk yX7_talk ∈ BW := bw_i 931 (by decide +kernel) (by decide +kernel)
theorem bw_532 : Cond.code yX6_give cX6_give 4 (some .int) ∈ BW := bw_i 532 (by decide +kernel) (by decide +kernel)
theorem no_X6_give : NameOK yX6_give 2 := by unfold NameOK; decide +kernel
theorem bw_529 : Cond.methodLink RL 57 yX6_give ∈ BW := bw_i 529 (by decide +kernel) (by decide +kernel)
theorem bw_530 : Cond.instanceMethod yX6_give ∈ BW := bw_i 530 (by decide +kernel) (by decide +kernel)
theorem bw_531 : Cond.selects RX6 yX6_give yX6_give ∈ BW := bw_i 531 (by decide +kernel) (by decide +kernel)
theorem bw_936 : Cond.code yX7_give cX7_give 4 (some .int) ∈ BW := bw_i 936 (by decide +kernel) (by decide +kernel)
theorem no_X7_give : NameOK yX7_give 2 := by unfold NameOK; decide +kernel
theorem bw_933 : Cond.methodLink RL 60 yX7_give ∈ BW := bw_i 933 (by decide +kernel) (by decide +kernel)
theorem bw_934 : Cond.instanceMethod yX7_give ∈ BW := bw_i 934 (by decide +kernel) (by decide +kernel)
theorem bw_935 : Cond.selects RX7 yX7_give yX7_give ∈ BW := bw_i 935 (by decide +kernel) (by decide +kernel)
theorem bw_536 : Cond.code yX6_drift cX6_drift 2 (some .int) ∈ BW := bw_i 536 (by decide +kernel) (by decide +kernel)
theorem no_X6_drift : NameOK yX6_drift 1 := by unfold NameOK; decide +kernel
theorem bw_533 : Cond.methodLink RL 61 yX6_drift ∈ BW := bw_i 533 (by decide +kernel) (by decide +kernel)
theorem bw_534 : Cond.instanceMethod yX6_drift ∈ BW := bw_i 534 (by decide +kernel) (by decide +kernel)
theorem bw_535 : Cond.selects RX6 yX6_drift yX6_drift ∈ BW := bw_i 535 (by decide +kernel) (by decide +kernel)
theorem bw_940 : Cond.code yX7_drift cX7_drift 5 (some .int) ∈ BW := bw_i 940 (by decide +kernel) (by decide +kernel)
theorem no_X7_drift : NameOK yX7_drift 1 := by unfold NameOK; decide +kernel
theorem bw_937 : Cond.methodLink RL 64 yX7_drift ∈ BW := bw_i 937 (by decide +kernel) (by decide +kernel)
theorem bw_938 : Cond.instanceMethod yX7_drift ∈ BW := bw_i 938 (by decide +kernel) (by decide +kernel)
theorem bw_939 : Cond.selects RX7 yX7_drift yX7_drift ∈ BW := bw_i 939 (by decide +kernel) (by decide +kernel)
theorem bw_540 : Cond.code yX6_undo cX6_undo 1 (some .int) ∈ BW := bw_i 540 (by decide +kernel) (by decide +kernel)
theorem no_X6_undo : NameOK yX6_undo 0 := by unfold NameOK; decide +kernel
theorem bw_537 : Cond.methodLink RL 65 yX6_undo ∈ BW := bw_i 537 (by decide +kernel) (by decide +kernel)
theorem bw_538 : Cond.instanceMethod yX6_undo ∈ BW := bw_i 538 (by decide +kernel) (by decide +kernel)
theorem bw_539 : Cond.selects RX6 yX6_undo yX6_undo ∈ BW := bw_i 539 (by decide +kernel) (by decide +kernel)
theorem bw_948 : Cond.code yX7_undo cX7_undo 2 (some .int) ∈ BW := bw_i 948 (by decide +kernel) (by decide +kernel)
theorem no_X7_undo : NameOK yX7_undo 0 := by unfold NameOK; decide +kernel
theorem bw_945 : Cond.methodLink RL 68 yX7_undo ∈ BW := bw_i 945 (by decide +kernel) (by decide +kernel)
theorem bw_946 : Cond.instanceMethod yX7_undo ∈ BW := bw_i 946 (by decide +kernel) (by decide +kernel)
theorem bw_947 : Cond.selects RX7 yX7_undo yX7_undo ∈ BW := bw_i 947 (by decide +kernel) (by decide +kernel)
theorem bw_548 : Cond.code yX6_seed cX6_seed 3 (some .int) ∈ BW := bw_i 548 (by decide +kernel) (by decide +kernel)
theorem no_X6_seed : NameOK yX6_seed 1 := by unfold NameOK; decide +kernel
theorem bw_545 : Cond.methodLink RL 69 yX6_seed ∈ BW := bw_i 545 (by decide +kernel) (by decide +kernel)
theorem bw_546 : Cond.instanceMethod yX6_seed ∈ BW := bw_i 546 (by decide +kernel) (by decide +kernel)
theorem bw_547 : Cond.selects RX6 yX6_seed yX6_seed ∈ BW := bw_i 547 (by decide +kernel) (by decide +kernel)
theorem bw_952 : Cond.code yX7_seed cX7_seed 3 (some .int) ∈ BW := bw_i 952 (by decide +kernel) (by decide +kernel)
theorem no_X7_seed : NameOK yX7_seed 1 := by unfold NameOK; decide +kernel
theorem bw_949 : Cond.methodLink RL 72 yX7_seed ∈ BW := bw_i 949 (by decide +kernel) (by decide +kernel)
theorem bw_950 : Cond.instanceMethod yX7_seed ∈ BW := bw_i 950 (by decide +kernel) (by decide +kernel)
theorem bw_951 : Cond.selects RX7 yX7_seed yX7_seed ∈ BW := bw_i 951 (by decide +kernel) (by decide +kernel)
theorem bw_552 : Cond.code yX6_keeper cX6_keeper 3 (some .int) ∈ BW := bw_i 552 (by decide +kernel) (by decide +kernel)
theorem no_X6_keeper : NameOK yX6_keeper 2 := by unfold NameOK; decide +kernel
theorem bw_549 : Cond.methodLink RL 73 yX6_keeper ∈ BW := bw_i 549 (by decide +kernel) (by decide +kernel)
theorem bw_550 : Cond.instanceMethod yX6_keeper ∈ BW := bw_i 550 (by decide +kernel) (by decide +kernel)
theorem bw_551 : Cond.selects RX6 yX6_keeper yX6_keeper ∈ BW := bw_i 551 (by decide +kernel) (by decide +kernel)
theorem bw_956 : Cond.code yX7_keeper cX7_keeper 3 (some .int) ∈ BW := bw_i 956 (by decide +kernel) (by decide +kernel)
theorem no_X7_keeper : NameOK yX7_keeper 2 := by unfold NameOK; decide +kernel
theorem bw_953 : Cond.methodLink RL 76 yX7_keeper ∈ BW := bw_i 953 (by decide +kernel) (by decide +kernel)
theorem bw_954 : Cond.instanceMethod yX7_keeper ∈ BW := bw_i 954 (by decide +kernel) (by decide +kernel)
theorem bw_955 : Cond.selects RX7 yX7_keeper yX7_keeper ∈ BW := bw_i 955 (by decide +kernel) (by decide +kernel)
theorem bw_565 : Cond.code yX6_ahead cX6_ahead 4 (some .int) ∈ BW := bw_i 565 (by decide +kernel) (by decide +kernel)
theorem no_X6_ahead : NameOK yX6_ahead 3 := by unfold NameOK; decide +kernel
theorem bw_562 : Cond.methodLink RL 77 yX6_ahead ∈ BW := bw_i 562 (by decide +kernel) (by decide +kernel)
theorem bw_563 : Cond.instanceMethod yX6_ahead ∈ BW := bw_i 563 (by decide +kernel) (by decide +kernel)
theorem bw_564 : Cond.selects RX6 yX6_ahead yX6_ahead ∈ BW := bw_i 564 (by decide +kernel) (by decide +kernel)
theorem bw_965 : Cond.code yX7_ahead cX7_ahead 4 (some .int) ∈ BW := bw_i 965 (by decide +kernel) (by decide +kernel)
theorem no_X7_ahead : NameOK yX7_ahead 3 := by unfold NameOK; decide +kernel
theorem bw_962 : Cond.methodLink RL 80 yX7_ahead ∈ BW := bw_i 962 (by decide +kernel) (by decide +kernel)
theorem bw_963 : Cond.instanceMethod yX7_ahead ∈ BW := bw_i 963 (by decide +kernel) (by decide +kernel)
theorem bw_964 : Cond.selects RX7 yX7_ahead yX7_ahead ∈ BW := bw_i 964 (by decide +kernel) (by decide +kernel)
theorem bw_569 : Cond.code yX6_then cX6_then 2 (some .int) ∈ BW := bw_i 569 (by decide +kernel) (by decide +kernel)
theorem no_X6_then : NameOK yX6_then 1 := by unfold NameOK; decide +kernel
theorem bw_566 : Cond.methodLink RL 81 yX6_then ∈ BW := bw_i 566 (by decide +kernel) (by decide +kernel)
theorem bw_567 : Cond.instanceMethod yX6_then ∈ BW := bw_i 567 (by decide +kernel) (by decide +kernel)
theorem bw_568 : Cond.selects RX6 yX6_then yX6_then ∈ BW := bw_i 568 (by decide +kernel) (by decide +kernel)
theorem bw_969 : Cond.code yX7_then cX7_then 2 (some .int) ∈ BW := bw_i 969 (by decide +kernel) (by decide +kernel)
theorem no_X7_then : NameOK yX7_then 1 := by unfold NameOK; decide +kernel
theorem bw_966 : Cond.methodLink RL 84 yX7_then ∈ BW := bw_i 966 (by decide +kernel) (by decide +kernel)
theorem bw_967 : Cond.instanceMethod yX7_then ∈ BW := bw_i 967 (by decide +kernel) (by decide +kernel)
theorem bw_968 : Cond.selects RX7 yX7_then yX7_then ∈ BW := bw_i 968 (by decide +kernel) (by decide +kernel)
theorem bw_573 : Cond.code yX6_in cX6_in 2 (some .int) ∈ BW := bw_i 573 (by decide +kernel) (by decide +kernel)
theorem no_X6_in : NameOK yX6_in 1 := by unfold NameOK; decide +kernel
theorem bw_570 : Cond.methodLink RL 85 yX6_in ∈ BW := bw_i 570 (by decide +kernel) (by decide +kernel)
theorem bw_571 : Cond.instanceMethod yX6_in ∈ BW := bw_i 571 (by decide +kernel) (by decide +kernel)
theorem bw_572 : Cond.selects RX6 yX6_in yX6_in ∈ BW := bw_i 572 (by decide +kernel) (by decide +kernel)
theorem bw_973 : Cond.code yX7_in cX7_in 3 (some .int) ∈ BW := bw_i 973 (by decide +kernel) (by decide +kernel)
theorem no_X7_in : NameOK yX7_in 1 := by unfold NameOK; decide +kernel
theorem bw_970 : Cond.methodLink RL 88 yX7_in ∈ BW := bw_i 970 (by decide +kernel) (by decide +kernel)
theorem bw_971 : Cond.instanceMethod yX7_in ∈ BW := bw_i 971 (by decide +kernel) (by decide +kernel)
theorem bw_972 : Cond.selects RX7 yX7_in yX7_in ∈ BW := bw_i 972 (by decide +kernel) (by decide +kernel)
theorem bw_585 : Cond.code yX6_holds cX6_holds 3 (some .int) ∈ BW := bw_i 585 (by decide +kernel) (by decide +kernel)
theorem no_X6_holds : NameOK yX6_holds 1 := by unfold NameOK; decide +kernel
theorem bw_582 : Cond.methodLink RL 89 yX6_holds ∈ BW := bw_i 582 (by decide +kernel) (by decide +kernel)
theorem bw_583 : Cond.instanceMethod yX6_holds ∈ BW := bw_i 583 (by decide +kernel) (by decide +kernel)
theorem bw_584 : Cond.selects RX6 yX6_holds yX6_holds ∈ BW := bw_i 584 (by decide +kernel) (by decide +kernel)
theorem bw_977 : Cond.code yX7_holds cX7_holds 3 (some .int) ∈ BW := bw_i 977 (by decide +kernel) (by decide +kernel)
theorem no_X7_holds : NameOK yX7_holds 1 := by unfold NameOK; decide +kernel
theorem bw_974 : Cond.methodLink RL 92 yX7_holds ∈ BW := bw_i 974 (by decide +kernel) (by decide +kernel)
theorem bw_975 : Cond.instanceMethod yX7_holds ∈ BW := bw_i 975 (by decide +kernel) (by decide +kernel)
theorem bw_976 : Cond.selects RX7 yX7_holds yX7_holds ∈ BW := bw_i 976 (by decide +kernel) (by decide +kernel)
theorem bw_590 : Cond.code yX6_had cX6_had 5 (some .int) ∈ BW := bw_i 590 (by decide +kernel) (by decide +kernel)
theorem no_X6_had : NameOK yX6_had 2 := by unfold NameOK; decide +kernel
theorem bw_587 : Cond.methodLink RL 93 yX6_had ∈ BW := bw_i 587 (by decide +kernel) (by decide +kernel)
theorem bw_588 : Cond.instanceMethod yX6_had ∈ BW := bw_i 588 (by decide +kernel) (by decide +kernel)
theorem bw_589 : Cond.selects RX6 yX6_had yX6_had ∈ BW := bw_i 589 (by decide +kernel) (by decide +kernel)
theorem bw_981 : Cond.code yX7_had cX7_had 5 (some .int) ∈ BW := bw_i 981 (by decide +kernel) (by decide +kernel)
theorem no_X7_had : NameOK yX7_had 2 := by unfold NameOK; decide +kernel
theorem bw_978 : Cond.methodLink RL 96 yX7_had ∈ BW := bw_i 978 (by decide +kernel) (by decide +kernel)
theorem bw_979 : Cond.instanceMethod yX7_had ∈ BW := bw_i 979 (by decide +kernel) (by decide +kernel)
theorem bw_980 : Cond.selects RX7 yX7_had yX7_had ∈ BW := bw_i 980 (by decide +kernel) (by decide +kernel)
theorem bw_595 : Cond.code yX6_keep cX6_keep 3 (some .int) ∈ BW := bw_i 595 (by decide +kernel) (by decide +kernel)
theorem no_X6_keep : NameOK yX6_keep 2 := by unfold NameOK; decide +kernel
theorem bw_592 : Cond.methodLink RL 97 yX6_keep ∈ BW := bw_i 592 (by decide +kernel) (by decide +kernel)
theorem bw_593 : Cond.instanceMethod yX6_keep ∈ BW := bw_i 593 (by decide +kernel) (by decide +kernel)
theorem bw_594 : Cond.selects RX6 yX6_keep yX6_keep ∈ BW := bw_i 594 (by decide +kernel) (by decide +kernel)
theorem bw_985 : Cond.code yX7_keep cX7_keep 12 (some .int) ∈ BW := bw_i 985 (by decide +kernel) (by decide +kernel)
theorem no_X7_keep : NameOK yX7_keep 2 := by unfold NameOK; decide +kernel
theorem bw_982 : Cond.methodLink RL 100 yX7_keep ∈ BW := bw_i 982 (by decide +kernel) (by decide +kernel)
theorem bw_983 : Cond.instanceMethod yX7_keep ∈ BW := bw_i 983 (by decide +kernel) (by decide +kernel)
theorem bw_984 : Cond.selects RX7 yX7_keep yX7_keep ∈ BW := bw_i 984 (by decide +kernel) (by decide +kernel)
theorem bw_612 : Cond.code yX6_tempt cX6_tempt 5 (some .int) ∈ BW := bw_i 612 (by decide +kernel) (by decide +kernel)
theorem no_X6_tempt : NameOK yX6_tempt 2 := by unfold NameOK; decide +kernel
theorem bw_609 : Cond.methodLink RL 101 yX6_tempt ∈ BW := bw_i 609 (by decide +kernel) (by decide +kernel)
theorem bw_610 : Cond.instanceMethod yX6_tempt ∈ BW := bw_i 610 (by decide +kernel) (by decide +kernel)
theorem bw_611 : Cond.selects RX6 yX6_tempt yX6_tempt ∈ BW := bw_i 611 (by decide +kernel) (by decide +kernel)
theorem bw_991 : Cond.code yX7_tempt cX7_tempt 6 (some .int) ∈ BW := bw_i 991 (by decide +kernel) (by decide +kernel)
theorem no_X7_tempt : NameOK yX7_tempt 2 := by unfold NameOK; decide +kernel
theorem bw_988 : Cond.methodLink RL 104 yX7_tempt ∈ BW := bw_i 988 (by decide +kernel) (by decide +kernel)
theorem bw_989 : Cond.instanceMethod yX7_tempt ∈ BW := bw_i 989 (by decide +kernel) (by decide +kernel)
theorem bw_990 : Cond.selects RX7 yX7_tempt yX7_tempt ∈ BW := bw_i 990 (by decide +kernel) (by decide +kernel)
theorem bw_616 : Cond.code yX6_strict cX6_strict 3 (some .int) ∈ BW := bw_i 616 (by decide +kernel) (by decide +kernel)
theorem no_X6_strict : NameOK yX6_strict 1 := by unfold NameOK; decide +kernel
theorem bw_613 : Cond.methodLink RL 105 yX6_strict ∈ BW := bw_i 613 (by decide +kernel) (by decide +kernel)
theorem bw_614 : Cond.instanceMethod yX6_strict ∈ BW := bw_i 614 (by decide +kernel) (by decide +kernel)
theorem bw_615 : Cond.selects RX6 yX6_strict yX6_strict ∈ BW := bw_i 615 (by decide +kernel) (by decide +kernel)
theorem bw_995 : Cond.code yX7_strict cX7_strict 4 (some .int) ∈ BW := bw_i 995 (by decide +kernel) (by decide +kernel)
theorem no_X7_strict : NameOK yX7_strict 1 := by unfold NameOK; decide +kernel
theorem bw_992 : Cond.methodLink RL 108 yX7_strict ∈ BW := bw_i 992 (by decide +kernel) (by decide +kernel)
theorem bw_993 : Cond.instanceMethod yX7_strict ∈ BW := bw_i 993 (by decide +kernel) (by decide +kernel)
theorem bw_994 : Cond.selects RX7 yX7_strict yX7_strict ∈ BW := bw_i 994 (by decide +kernel) (by decide +kernel)
theorem bw_620 : Cond.code yX6_yawn cX6_yawn 7 (some .int) ∈ BW := bw_i 620 (by decide +kernel) (by decide +kernel)
theorem no_X6_yawn : NameOK yX6_yawn 3 := by unfold NameOK; decide +kernel
theorem bw_617 : Cond.methodLink RL 109 yX6_yawn ∈ BW := bw_i 617 (by decide +kernel) (by decide +kernel)
theorem bw_618 : Cond.instanceMethod yX6_yawn ∈ BW := bw_i 618 (by decide +kernel) (by decide +kernel)
theorem bw_619 : Cond.selects RX6 yX6_yawn yX6_yawn ∈ BW := bw_i 619 (by decide +kernel) (by decide +kernel)
theorem bw_999 : Cond.code yX7_yawn cX7_yawn 9 (some .int) ∈ BW := bw_i 999 (by decide +kernel) (by decide +kernel)
theorem no_X7_yawn : NameOK yX7_yawn 3 := by unfold NameOK; decide +kernel
theorem bw_996 : Cond.methodLink RL 112 yX7_yawn ∈ BW := bw_i 996 (by decide +kernel) (by decide +kernel)
theorem bw_997 : Cond.instanceMethod yX7_yawn ∈ BW := bw_i 997 (by decide +kernel) (by decide +kernel)
theorem bw_998 : Cond.selects RX7 yX7_yawn yX7_yawn ∈ BW := bw_i 998 (by decide +kernel) (by decide +kernel)
theorem bw_628 : Cond.code yX6_image cX6_image 1 (some .int) ∈ BW := bw_i 628 (by decide +kernel) (by decide +kernel)
theorem no_X6_image : NameOK yX6_image 0 := by unfold NameOK; decide +kernel
theorem bw_625 : Cond.methodLink RL 113 yX6_image ∈ BW := bw_i 625 (by decide +kernel) (by decide +kernel)
theorem bw_626 : Cond.instanceMethod yX6_image ∈ BW := bw_i 626 (by decide +kernel) (by decide +kernel)
theorem bw_627 : Cond.selects RX6 yX6_image yX6_image ∈ BW := bw_i 627 (by decide +kernel) (by decide +kernel)
theorem bw_1004 : Cond.code yX7_image cX7_image 2 (some .int) ∈ BW := bw_i 1004 (by decide +kernel) (by decide +kernel)
theorem no_X7_image : NameOK yX7_image 0 := by unfold NameOK; decide +kernel
theorem bw_1001 : Cond.methodLink RL 116 yX7_image ∈ BW := bw_i 1001 (by decide +kernel) (by decide +kernel)
theorem bw_1002 : Cond.instanceMethod yX7_image ∈ BW := bw_i 1002 (by decide +kernel) (by decide +kernel)
theorem bw_1003 : Cond.selects RX7 yX7_image yX7_image ∈ BW := bw_i 1003 (by decide +kernel) (by decide +kernel)
theorem bw_636 : Cond.code yX6_restore cX6_restore 1 (some .int) ∈ BW := bw_i 636 (by decide +kernel) (by decide +kernel)
theorem no_X6_restore : NameOK yX6_restore 0 := by unfold NameOK; decide +kernel
theorem bw_633 : Cond.methodLink RL 117 yX6_restore ∈ BW := bw_i 633 (by decide +kernel) (by decide +kernel)
theorem bw_634 : Cond.instanceMethod yX6_restore ∈ BW := bw_i 634 (by decide +kernel) (by decide +kernel)
theorem bw_635 : Cond.selects RX6 yX6_restore yX6_restore ∈ BW := bw_i 635 (by decide +kernel) (by decide +kernel)
theorem bw_1008 : Cond.code yX7_restore cX7_restore 2 (some .int) ∈ BW := bw_i 1008 (by decide +kernel) (by decide +kernel)
theorem no_X7_restore : NameOK yX7_restore 0 := by unfold NameOK; decide +kernel
theorem bw_1005 : Cond.methodLink RL 120 yX7_restore ∈ BW := bw_i 1005 (by decide +kernel) (by decide +kernel)
theorem bw_1006 : Cond.instanceMethod yX7_restore ∈ BW := bw_i 1006 (by decide +kernel) (by decide +kernel)
theorem bw_1007 : Cond.selects RX7 yX7_restore yX7_restore ∈ BW := bw_i 1007 (by decide +kernel) (by decide +kernel)
theorem bw_640 : Cond.code yX6_told cX6_told 13 (some .int) ∈ BW := bw_i 640 (by decide +kernel) (by decide +kernel)
theorem no_X6_told : NameOK yX6_told 7 := by unfold NameOK; decide +kernel
theorem bw_637 : Cond.methodLink RL 121 yX6_told ∈ BW := bw_i 637 (by decide +kernel) (by decide +kernel)
theorem bw_638 : Cond.instanceMethod yX6_told ∈ BW := bw_i 638 (by decide +kernel) (by decide +kernel)
theorem bw_639 : Cond.selects RX6 yX6_told yX6_told ∈ BW := bw_i 639 (by decide +kernel) (by decide +kernel)
theorem bw_1012 : Cond.code yX7_told cX7_told 9 (some .int) ∈ BW := bw_i 1012 (by decide +kernel) (by decide +kernel)
theorem no_X7_told : NameOK yX7_told 7 := by unfold NameOK; decide +kernel
theorem bw_1009 : Cond.methodLink RL 125 yX7_told ∈ BW := bw_i 1009 (by decide +kernel) (by decide +kernel)
theorem bw_1010 : Cond.instanceMethod yX7_told ∈ BW := bw_i 1010 (by decide +kernel) (by decide +kernel)
theorem bw_1011 : Cond.selects RX7 yX7_told yX7_told ∈ BW := bw_i 1011 (by decide +kernel) (by decide +kernel)
theorem bw_673 : Cond.code yX6_film cX6_film 9 (some .int) ∈ BW := bw_i 673 (by decide +kernel) (by decide +kernel)
theorem no_X6_film : NameOK yX6_film 6 := by unfold NameOK; decide +kernel
theorem bw_670 : Cond.methodLink RL 126 yX6_film ∈ BW := bw_i 670 (by decide +kernel) (by decide +kernel)
theorem bw_671 : Cond.instanceMethod yX6_film ∈ BW := bw_i 671 (by decide +kernel) (by decide +kernel)
theorem bw_672 : Cond.selects RX6 yX6_film yX6_film ∈ BW := bw_i 672 (by decide +kernel) (by decide +kernel)
theorem bw_1047 : Cond.code yX7_film cX7_film 9 (some .int) ∈ BW := bw_i 1047 (by decide +kernel) (by decide +kernel)
theorem no_X7_film : NameOK yX7_film 6 := by unfold NameOK; decide +kernel
theorem bw_1044 : Cond.methodLink RL 130 yX7_film ∈ BW := bw_i 1044 (by decide +kernel) (by decide +kernel)
theorem bw_1045 : Cond.instanceMethod yX7_film ∈ BW := bw_i 1045 (by decide +kernel) (by decide +kernel)
theorem bw_1046 : Cond.selects RX7 yX7_film yX7_film ∈ BW := bw_i 1046 (by decide +kernel) (by decide +kernel)
theorem bw_681 : Cond.code yX6_sheet cX6_sheet 4 (some .int) ∈ BW := bw_i 681 (by decide +kernel) (by decide +kernel)
theorem no_X6_sheet : NameOK yX6_sheet 3 := by unfold NameOK; decide +kernel
theorem bw_678 : Cond.methodLink RL 131 yX6_sheet ∈ BW := bw_i 678 (by decide +kernel) (by decide +kernel)
theorem bw_679 : Cond.instanceMethod yX6_sheet ∈ BW := bw_i 679 (by decide +kernel) (by decide +kernel)
theorem bw_680 : Cond.selects RX6 yX6_sheet yX6_sheet ∈ BW := bw_i 680 (by decide +kernel) (by decide +kernel)
theorem bw_1052 : Cond.code yX7_sheet cX7_sheet 5 (some .int) ∈ BW := bw_i 1052 (by decide +kernel) (by decide +kernel)
theorem no_X7_sheet : NameOK yX7_sheet 3 := by unfold NameOK; decide +kernel
theorem bw_1049 : Cond.methodLink RL 134 yX7_sheet ∈ BW := bw_i 1049 (by decide +kernel) (by decide +kernel)
theorem bw_1050 : Cond.instanceMethod yX7_sheet ∈ BW := bw_i 1050 (by decide +kernel) (by decide +kernel)
theorem bw_1051 : Cond.selects RX7 yX7_sheet yX7_sheet ∈ BW := bw_i 1051 (by decide +kernel) (by decide +kernel)
theorem bw_689 : Cond.code yX6_drop cX6_drop 2 (some .int) ∈ BW := bw_i 689 (by decide +kernel) (by decide +kernel)
theorem no_X6_drop : NameOK yX6_drop 1 := by unfold NameOK; decide +kernel
theorem bw_686 : Cond.methodLink RL 135 yX6_drop ∈ BW := bw_i 686 (by decide +kernel) (by decide +kernel)
theorem bw_687 : Cond.instanceMethod yX6_drop ∈ BW := bw_i 687 (by decide +kernel) (by decide +kernel)
theorem bw_688 : Cond.selects RX6 yX6_drop yX6_drop ∈ BW := bw_i 688 (by decide +kernel) (by decide +kernel)
theorem bw_1056 : Cond.code yX7_drop cX7_drop 3 (some .int) ∈ BW := bw_i 1056 (by decide +kernel) (by decide +kernel)
theorem no_X7_drop : NameOK yX7_drop 1 := by unfold NameOK; decide +kernel
theorem bw_1053 : Cond.methodLink RL 138 yX7_drop ∈ BW := bw_i 1053 (by decide +kernel) (by decide +kernel)
theorem bw_1054 : Cond.instanceMethod yX7_drop ∈ BW := bw_i 1054 (by decide +kernel) (by decide +kernel)
theorem bw_1055 : Cond.selects RX7 yX7_drop yX7_drop ∈ BW := bw_i 1055 (by decide +kernel) (by decide +kernel)
theorem bw_698 : Cond.code yX6_item cX6_item 7 (some .int) ∈ BW := bw_i 698 (by decide +kernel) (by decide +kernel)
theorem no_X6_item : NameOK yX6_item 4 := by unfold NameOK; decide +kernel
theorem bw_695 : Cond.methodLink RL 141 yX6_item ∈ BW := bw_i 695 (by decide +kernel) (by decide +kernel)
theorem bw_696 : Cond.instanceMethod yX6_item ∈ BW := bw_i 696 (by decide +kernel) (by decide +kernel)
theorem bw_697 : Cond.selects RX6 yX6_item yX6_item ∈ BW := bw_i 697 (by decide +kernel) (by decide +kernel)
theorem bw_1060 : Cond.code yX7_item cX7_item 7 (some .int) ∈ BW := bw_i 1060 (by decide +kernel) (by decide +kernel)
theorem no_X7_item : NameOK yX7_item 4 := by unfold NameOK; decide +kernel
theorem bw_1057 : Cond.methodLink RL 145 yX7_item ∈ BW := bw_i 1057 (by decide +kernel) (by decide +kernel)
theorem bw_1058 : Cond.instanceMethod yX7_item ∈ BW := bw_i 1058 (by decide +kernel) (by decide +kernel)
theorem bw_1059 : Cond.selects RX7 yX7_item yX7_item ∈ BW := bw_i 1059 (by decide +kernel) (by decide +kernel)
theorem bw_702 : Cond.code yX6_copy cX6_copy 8 (some .int) ∈ BW := bw_i 702 (by decide +kernel) (by decide +kernel)
theorem no_X6_copy : NameOK yX6_copy 5 := by unfold NameOK; decide +kernel
theorem bw_699 : Cond.methodLink RL 146 yX6_copy ∈ BW := bw_i 699 (by decide +kernel) (by decide +kernel)
theorem bw_700 : Cond.instanceMethod yX6_copy ∈ BW := bw_i 700 (by decide +kernel) (by decide +kernel)
theorem bw_701 : Cond.selects RX6 yX6_copy yX6_copy ∈ BW := bw_i 701 (by decide +kernel) (by decide +kernel)
theorem bw_1064 : Cond.code yX7_copy cX7_copy 8 (some .int) ∈ BW := bw_i 1064 (by decide +kernel) (by decide +kernel)
theorem no_X7_copy : NameOK yX7_copy 5 := by unfold NameOK; decide +kernel
theorem bw_1061 : Cond.methodLink RL 150 yX7_copy ∈ BW := bw_i 1061 (by decide +kernel) (by decide +kernel)
theorem bw_1062 : Cond.instanceMethod yX7_copy ∈ BW := bw_i 1062 (by decide +kernel) (by decide +kernel)
theorem bw_1063 : Cond.selects RX7 yX7_copy yX7_copy ∈ BW := bw_i 1063 (by decide +kernel) (by decide +kernel)
theorem bw_1065 : Cond.constantLong RL 139 (4294967295 : Int64) ∈ BW := bw_i 1065 (by decide +kernel) (by decide +kernel)
theorem tg_24_1240 : tgo 24 1240 = some 1264 := by decide
theorem bc_31 : (Int8.ofInt 31).toInt32 = 31 := by decide
theorem tg_33_1225 : tgo 33 1225 = some 1258 := by decide
theorem tg_33_143 : tgo 33 143 = some 176 := by decide
theorem tg_33_176 : tgo 33 176 = some 209 := by decide
theorem tg_33_199 : tgo 33 199 = some 232 := by decide
theorem tg_33_232 : tgo 33 232 = some 265 := by decide
theorem tg_33_265 : tgo 33 265 = some 298 := by decide
theorem tg_33_298 : tgo 33 298 = some 331 := by decide
theorem tg_33_321 : tgo 33 321 = some 354 := by decide
theorem tg_33_334 : tgo 33 334 = some 367 := by decide
theorem tg_33_357 : tgo 33 357 = some 390 := by decide
theorem tg_33_380 : tgo 33 380 = some 413 := by decide
theorem tg_33_423 : tgo 33 423 = some 456 := by decide
theorem tg_33_456 : tgo 33 456 = some 489 := by decide
theorem tg_33_479 : tgo 33 479 = some 512 := by decide
theorem tg_33_492 : tgo 33 492 = some 525 := by decide
theorem tg_33_515 : tgo 33 515 = some 548 := by decide
theorem tg_33_548 : tgo 33 548 = some 581 := by decide
theorem tg_33_591 : tgo 33 591 = some 624 := by decide
theorem tg_33_614 : tgo 33 614 = some 647 := by decide
theorem tg_33_637 : tgo 33 637 = some 670 := by decide
theorem tg_33_660 : tgo 33 660 = some 693 := by decide
theorem tg_33_693 : tgo 33 693 = some 726 := by decide
theorem tg_33_726 : tgo 33 726 = some 759 := by decide
theorem tg_33_759 : tgo 33 759 = some 792 := by decide
theorem tg_33_782 : tgo 33 782 = some 815 := by decide
theorem tg_33_825 : tgo 33 825 = some 858 := by decide
theorem tg_33_838 : tgo 33 838 = some 871 := by decide
theorem tg_33_851 : tgo 33 851 = some 884 := by decide
theorem tg_33_938 : tgo 33 938 = some 971 := by decide
theorem tg_33_1013 : tgo 33 1013 = some 1046 := by decide
theorem tg_33_1056 : tgo 33 1056 = some 1089 := by decide
theorem tg_33_1079 : tgo 33 1079 = some 1112 := by decide
theorem tg_33_1162 : tgo 33 1162 = some 1195 := by decide
theorem ic_8 : Int32.ofInt 8 = 8 := by decide
theorem ic_9 : Int32.ofInt 9 = 9 := by decide
theorem ic_10 : Int32.ofInt 10 = 10 := by decide
theorem ic_11 : Int32.ofInt 11 = 11 := by decide
theorem ic_12 : Int32.ofInt 12 = 12 := by decide
theorem ic_13 : Int32.ofInt 13 = 13 := by decide
theorem ic_14 : Int32.ofInt 14 = 14 := by decide
theorem ic_15 : Int32.ofInt 15 = 15 := by decide
theorem ic_16 : Int32.ofInt 16 = 16 := by decide
theorem ic_17 : Int32.ofInt 17 = 17 := by decide
theorem ic_18 : Int32.ofInt 18 = 18 := by decide
theorem ic_19 : Int32.ofInt 19 = 19 := by decide
theorem ic_20 : Int32.ofInt 20 = 20 := by decide
theorem ic_21 : Int32.ofInt 21 = 21 := by decide
theorem ic_22 : Int32.ofInt 22 = 22 := by decide
theorem ic_23 : Int32.ofInt 23 = 23 := by decide
theorem ic_24 : Int32.ofInt 24 = 24 := by decide
theorem ic_25 : Int32.ofInt 25 = 25 := by decide
theorem ic_26 : Int32.ofInt 26 = 26 := by decide
theorem ic_27 : Int32.ofInt 27 = 27 := by decide
theorem ic_28 : Int32.ofInt 28 = 28 := by decide
theorem ic_29 : Int32.ofInt 29 = 29 := by decide
theorem ic_30 : Int32.ofInt 30 = 30 := by decide
theorem ic_31 : Int32.ofInt 31 = 31 := by decide
theorem tg_204_1054 : tgo 204 1054 = some 1258 := by decide
theorem tg_227_1031 : tgo 227 1031 = some 1258 := by decide
theorem tg_260_998 : tgo 260 998 = some 1258 := by decide
theorem tg_293_965 : tgo 293 965 = some 1258 := by decide
theorem tg_326_932 : tgo 326 932 = some 1258 := by decide
theorem tg_349_909 : tgo 349 909 = some 1258 := by decide
theorem tg_362_896 : tgo 362 896 = some 1258 := by decide
theorem tg_385_873 : tgo 385 873 = some 1258 := by decide
theorem tg_408_850 : tgo 408 850 = some 1258 := by decide
theorem tg_451_807 : tgo 451 807 = some 1258 := by decide
theorem tg_484_774 : tgo 484 774 = some 1258 := by decide
theorem tg_507_751 : tgo 507 751 = some 1258 := by decide
theorem tg_520_738 : tgo 520 738 = some 1258 := by decide
theorem tg_543_715 : tgo 543 715 = some 1258 := by decide
theorem tg_576_682 : tgo 576 682 = some 1258 := by decide
theorem tg_619_639 : tgo 619 639 = some 1258 := by decide
theorem tg_642_616 : tgo 642 616 = some 1258 := by decide
theorem tg_665_593 : tgo 665 593 = some 1258 := by decide
theorem tg_688_570 : tgo 688 570 = some 1258 := by decide
theorem tg_721_537 : tgo 721 537 = some 1258 := by decide
theorem tg_754_504 : tgo 754 504 = some 1258 := by decide
theorem tg_787_471 : tgo 787 471 = some 1258 := by decide
theorem tg_810_448 : tgo 810 448 = some 1258 := by decide
theorem tg_853_405 : tgo 853 405 = some 1258 := by decide
theorem tg_866_392 : tgo 866 392 = some 1258 := by decide
theorem tg_879_379 : tgo 879 379 = some 1258 := by decide
theorem bc_6 : (Int8.ofInt 6).toInt32 = 6 := by decide
theorem tg_966_292 : tgo 966 292 = some 1258 := by decide
theorem tg_1041_217 : tgo 1041 217 = some 1258 := by decide
theorem tg_1084_174 : tgo 1084 174 = some 1258 := by decide
theorem tg_1107_151 : tgo 1107 151 = some 1258 := by decide
theorem tg_1190_68 : tgo 1190 68 = some 1258 := by decide
theorem tg_1253_5 : tgo 1253 5 = some 1258 := by decide
theorem tg_1261_m1243 : tgo 1261 (-1243) = some 18 := by decide
def mL_law : Mt := (room_1, RL, cL_law, 4, some .boolean, (600000, 7302250), some true)
theorem mL_law_c : mL_law.2.2.1 = cL_law := rfl
theorem mL_law_n : mL_law.2.2.2.1 = 4 := rfl
theorem mL_law_r : mL_law.2.2.2.2.1 = some .boolean := rfl
theorem mL_law_l : mL_law.2.2.2.2.2.2 = some true := rfl
def jL_law (Γ : Cx) : List ((Nat × Nat) × Nat × Bool × YSp) := [((0, 13), 3, false, sp_X6_person Γ), ((0, 17), 3, false, sp_X7_person Γ), ((0, 18), 2, false, sp_X6_rule Γ), ((0, 22), 2, false, sp_X7_rule Γ), ((0, 23), 3, false, sp_X6_wants Γ), ((0, 26), 3, false, sp_X7_wants Γ), ((0, 27), 3, false, sp_X6_of Γ), ((0, 30), 3, false, sp_X7_of Γ), ((0, 31), 3, false, sp_X6_at Γ), ((0, 34), 3, false, sp_X7_at Γ), ((0, 35), 2, false, sp_X6_type Γ), ((0, 38), 2, false, sp_X7_type Γ), ((0, 39), 1, false, sp_X6_college Γ), ((0, 43), 1, false, sp_X7_college Γ), ((0, 44), 2, false, sp_X6_count Γ), ((0, 47), 2, false, sp_X7_count Γ), ((0, 48), 2, false, sp_X6_days Γ), ((0, 51), 2, false, sp_X7_days Γ), ((0, 52), 4, false, sp_X6_talk Γ), ((0, 56), 4, false, sp_X7_talk Γ), ((0, 57), 3, false, sp_X6_give Γ), ((0, 60), 3, false, sp_X7_give Γ), ((0, 61), 2, false, sp_X6_drift Γ), ((0, 64), 2, false, sp_X7_drift Γ), ((0, 65), 1, false, sp_X6_undo Γ), ((0, 68), 1, false, sp_X7_undo Γ), ((0, 69), 2, false, sp_X6_seed Γ), ((0, 72), 2, false, sp_X7_seed Γ), ((0, 73), 3, false, sp_X6_keeper Γ), ((0, 76), 3, false, sp_X7_keeper Γ), ((0, 77), 4, false, sp_X6_ahead Γ), ((0, 80), 4, false, sp_X7_ahead Γ), ((0, 81), 2, false, sp_X6_then Γ), ((0, 84), 2, false, sp_X7_then Γ), ((0, 85), 2, false, sp_X6_in Γ), ((0, 88), 2, false, sp_X7_in Γ), ((0, 89), 2, false, sp_X6_holds Γ), ((0, 92), 2, false, sp_X7_holds Γ), ((0, 93), 3, false, sp_X6_had Γ), ((0, 96), 3, false, sp_X7_had Γ), ((0, 97), 3, false, sp_X6_keep Γ), ((0, 100), 3, false, sp_X7_keep Γ), ((0, 101), 3, false, sp_X6_tempt Γ), ((0, 104), 3, false, sp_X7_tempt Γ), ((0, 105), 2, false, sp_X6_strict Γ), ((0, 108), 2, false, sp_X7_strict Γ), ((0, 109), 4, false, sp_X6_yawn Γ), ((0, 112), 4, false, sp_X7_yawn Γ), ((0, 113), 1, false, sp_X6_image Γ), ((0, 116), 1, false, sp_X7_image Γ), ((0, 117), 1, false, sp_X6_restore Γ), ((0, 120), 1, false, sp_X7_restore Γ), ((0, 121), 8, false, sp_X6_told Γ), ((0, 125), 8, false, sp_X7_told Γ), ((0, 126), 7, false, sp_X6_film Γ), ((0, 130), 7, false, sp_X7_film Γ), ((0, 131), 4, false, sp_X6_sheet Γ), ((0, 134), 4, false, sp_X7_sheet Γ), ((0, 135), 2, false, sp_X6_drop Γ), ((0, 138), 2, false, sp_X7_drop Γ), ((0, 141), 5, false, sp_X6_item Γ), ((0, 145), 5, false, sp_X7_item Γ), ((0, 146), 6, false, sp_X6_copy Γ), ((0, 150), 6, false, sp_X7_copy Γ)]
theorem jL_law_0_13 (Γ : Cx) : kT (jL_law Γ) 0 13 = some (3, false, sp_X6_person Γ) := rfl
theorem jL_law_0_17 (Γ : Cx) : kT (jL_law Γ) 0 17 = some (3, false, sp_X7_person Γ) := rfl
theorem jL_law_0_18 (Γ : Cx) : kT (jL_law Γ) 0 18 = some (2, false, sp_X6_rule Γ) := rfl
theorem jL_law_0_22 (Γ : Cx) : kT (jL_law Γ) 0 22 = some (2, false, sp_X7_rule Γ) := rfl
theorem jL_law_0_23 (Γ : Cx) : kT (jL_law Γ) 0 23 = some (3, false, sp_X6_wants Γ) := rfl
theorem jL_law_0_26 (Γ : Cx) : kT (jL_law Γ) 0 26 = some (3, false, sp_X7_wants Γ) := rfl
theorem jL_law_0_27 (Γ : Cx) : kT (jL_law Γ) 0 27 = some (3, false, sp_X6_of Γ) := rfl
theorem jL_law_0_30 (Γ : Cx) : kT (jL_law Γ) 0 30 = some (3, false, sp_X7_of Γ) := rfl
theorem jL_law_0_31 (Γ : Cx) : kT (jL_law Γ) 0 31 = some (3, false, sp_X6_at Γ) := rfl
theorem jL_law_0_34 (Γ : Cx) : kT (jL_law Γ) 0 34 = some (3, false, sp_X7_at Γ) := rfl
theorem jL_law_0_35 (Γ : Cx) : kT (jL_law Γ) 0 35 = some (2, false, sp_X6_type Γ) := rfl
theorem jL_law_0_38 (Γ : Cx) : kT (jL_law Γ) 0 38 = some (2, false, sp_X7_type Γ) := rfl
theorem jL_law_0_39 (Γ : Cx) : kT (jL_law Γ) 0 39 = some (1, false, sp_X6_college Γ) := rfl
theorem jL_law_0_43 (Γ : Cx) : kT (jL_law Γ) 0 43 = some (1, false, sp_X7_college Γ) := rfl
theorem jL_law_0_44 (Γ : Cx) : kT (jL_law Γ) 0 44 = some (2, false, sp_X6_count Γ) := rfl
theorem jL_law_0_47 (Γ : Cx) : kT (jL_law Γ) 0 47 = some (2, false, sp_X7_count Γ) := rfl
theorem jL_law_0_48 (Γ : Cx) : kT (jL_law Γ) 0 48 = some (2, false, sp_X6_days Γ) := rfl
theorem jL_law_0_51 (Γ : Cx) : kT (jL_law Γ) 0 51 = some (2, false, sp_X7_days Γ) := rfl
theorem jL_law_0_52 (Γ : Cx) : kT (jL_law Γ) 0 52 = some (4, false, sp_X6_talk Γ) := rfl
theorem jL_law_0_56 (Γ : Cx) : kT (jL_law Γ) 0 56 = some (4, false, sp_X7_talk Γ) := rfl
theorem jL_law_0_57 (Γ : Cx) : kT (jL_law Γ) 0 57 = some (3, false, sp_X6_give Γ) := rfl
theorem jL_law_0_60 (Γ : Cx) : kT (jL_law Γ) 0 60 = some (3, false, sp_X7_give Γ) := rfl
theorem jL_law_0_61 (Γ : Cx) : kT (jL_law Γ) 0 61 = some (2, false, sp_X6_drift Γ) := rfl
theorem jL_law_0_64 (Γ : Cx) : kT (jL_law Γ) 0 64 = some (2, false, sp_X7_drift Γ) := rfl
theorem jL_law_0_65 (Γ : Cx) : kT (jL_law Γ) 0 65 = some (1, false, sp_X6_undo Γ) := rfl
theorem jL_law_0_68 (Γ : Cx) : kT (jL_law Γ) 0 68 = some (1, false, sp_X7_undo Γ) := rfl
theorem jL_law_0_69 (Γ : Cx) : kT (jL_law Γ) 0 69 = some (2, false, sp_X6_seed Γ) := rfl
theorem jL_law_0_72 (Γ : Cx) : kT (jL_law Γ) 0 72 = some (2, false, sp_X7_seed Γ) := rfl
theorem jL_law_0_73 (Γ : Cx) : kT (jL_law Γ) 0 73 = some (3, false, sp_X6_keeper Γ) := rfl
theorem jL_law_0_76 (Γ : Cx) : kT (jL_law Γ) 0 76 = some (3, false, sp_X7_keeper Γ) := rfl
theorem jL_law_0_77 (Γ : Cx) : kT (jL_law Γ) 0 77 = some (4, false, sp_X6_ahead Γ) := rfl
theorem jL_law_0_80 (Γ : Cx) : kT (jL_law Γ) 0 80 = some (4, false, sp_X7_ahead Γ) := rfl
theorem jL_law_0_81 (Γ : Cx) : kT (jL_law Γ) 0 81 = some (2, false, sp_X6_then Γ) := rfl
theorem jL_law_0_84 (Γ : Cx) : kT (jL_law Γ) 0 84 = some (2, false, sp_X7_then Γ) := rfl
theorem jL_law_0_85 (Γ : Cx) : kT (jL_law Γ) 0 85 = some (2, false, sp_X6_in Γ) := rfl
theorem jL_law_0_88 (Γ : Cx) : kT (jL_law Γ) 0 88 = some (2, false, sp_X7_in Γ) := rfl
theorem jL_law_0_89 (Γ : Cx) : kT (jL_law Γ) 0 89 = some (2, false, sp_X6_holds Γ) := rfl
theorem jL_law_0_92 (Γ : Cx) : kT (jL_law Γ) 0 92 = some (2, false, sp_X7_holds Γ) := rfl
theorem jL_law_0_93 (Γ : Cx) : kT (jL_law Γ) 0 93 = some (3, false, sp_X6_had Γ) := rfl
theorem jL_law_0_96 (Γ : Cx) : kT (jL_law Γ) 0 96 = some (3, false, sp_X7_had Γ) := rfl
theorem jL_law_0_97 (Γ : Cx) : kT (jL_law Γ) 0 97 = some (3, false, sp_X6_keep Γ) := rfl
theorem jL_law_0_100 (Γ : Cx) : kT (jL_law Γ) 0 100 = some (3, false, sp_X7_keep Γ) := rfl
theorem jL_law_0_101 (Γ : Cx) : kT (jL_law Γ) 0 101 = some (3, false, sp_X6_tempt Γ) := rfl
theorem jL_law_0_104 (Γ : Cx) : kT (jL_law Γ) 0 104 = some (3, false, sp_X7_tempt Γ) := rfl
theorem jL_law_0_105 (Γ : Cx) : kT (jL_law Γ) 0 105 = some (2, false, sp_X6_strict Γ) := rfl
theorem jL_law_0_108 (Γ : Cx) : kT (jL_law Γ) 0 108 = some (2, false, sp_X7_strict Γ) := rfl
theorem jL_law_0_109 (Γ : Cx) : kT (jL_law Γ) 0 109 = some (4, false, sp_X6_yawn Γ) := rfl
theorem jL_law_0_112 (Γ : Cx) : kT (jL_law Γ) 0 112 = some (4, false, sp_X7_yawn Γ) := rfl
theorem jL_law_0_113 (Γ : Cx) : kT (jL_law Γ) 0 113 = some (1, false, sp_X6_image Γ) := rfl
theorem jL_law_0_116 (Γ : Cx) : kT (jL_law Γ) 0 116 = some (1, false, sp_X7_image Γ) := rfl
theorem jL_law_0_117 (Γ : Cx) : kT (jL_law Γ) 0 117 = some (1, false, sp_X6_restore Γ) := rfl
theorem jL_law_0_120 (Γ : Cx) : kT (jL_law Γ) 0 120 = some (1, false, sp_X7_restore Γ) := rfl
theorem jL_law_0_121 (Γ : Cx) : kT (jL_law Γ) 0 121 = some (8, false, sp_X6_told Γ) := rfl
theorem jL_law_0_125 (Γ : Cx) : kT (jL_law Γ) 0 125 = some (8, false, sp_X7_told Γ) := rfl
theorem jL_law_0_126 (Γ : Cx) : kT (jL_law Γ) 0 126 = some (7, false, sp_X6_film Γ) := rfl
theorem jL_law_0_130 (Γ : Cx) : kT (jL_law Γ) 0 130 = some (7, false, sp_X7_film Γ) := rfl
theorem jL_law_0_131 (Γ : Cx) : kT (jL_law Γ) 0 131 = some (4, false, sp_X6_sheet Γ) := rfl
theorem jL_law_0_134 (Γ : Cx) : kT (jL_law Γ) 0 134 = some (4, false, sp_X7_sheet Γ) := rfl
theorem jL_law_0_135 (Γ : Cx) : kT (jL_law Γ) 0 135 = some (2, false, sp_X6_drop Γ) := rfl
theorem jL_law_0_138 (Γ : Cx) : kT (jL_law Γ) 0 138 = some (2, false, sp_X7_drop Γ) := rfl
theorem jL_law_0_141 (Γ : Cx) : kT (jL_law Γ) 0 141 = some (5, false, sp_X6_item Γ) := rfl
theorem jL_law_0_145 (Γ : Cx) : kT (jL_law Γ) 0 145 = some (5, false, sp_X7_item Γ) := rfl
theorem jL_law_0_146 (Γ : Cx) : kT (jL_law Γ) 0 146 = some (6, false, sp_X6_copy Γ) := rfl
theorem jL_law_0_150 (Γ : Cx) : kT (jL_law Γ) 0 150 = some (6, false, sp_X7_copy Γ) := rfl
def kkL_law : List (Nat × (Int32 ⊕ Int64)) := [(139, .inr (4294967295 : Int64))]
theorem kkL_law_ok : ∀ q ∈ kkL_law, conOK RL q := all_cons bw_1065 (all_nil)
theorem kkL_law_139 : cT kkL_law 139 = some (.inr (4294967295 : Int64)) := by decide +kernel
theorem uL_law (Γ : Cx) : TbOK Γ mL_law (fT [], cT kkL_law, kT (jL_law Γ)) := tb_ok all_nil kkL_law_ok (all_cons ⟨call_V (n := 2) (T := TX6) (N := 9) (ok_X6_person Γ) (rv_X6_person (Γ := Γ)) rfl bw_238 bw_235 bw_236 bw_237 bw_42 no_X6_person ⟨⟨rfl, rfl⟩, ⟨by decide, by decide⟩, ⟨by decide, by decide⟩⟩, fun z => by cases z⟩ (all_cons ⟨call_V (n := 2) (T := TX7) (N := 26) (ok_X7_person Γ) (rv_X7_person (Γ := Γ)) rfl bw_793 bw_790 bw_791 bw_792 bw_49 no_X7_person ⟨⟨rfl, rfl⟩, ⟨by decide, by decide⟩, ⟨by decide, by decide⟩⟩, fun z => by cases z⟩ (all_cons ⟨call_V (n := 1) (T := TX6) (N := 9) (ok_X6_rule Γ) (rv_X6_rule (Γ := Γ)) rfl bw_257 bw_254 bw_255 bw_256 bw_42 no_X6_rule ⟨⟨rfl, rfl⟩, ⟨by decide, by decide⟩, ⟨by decide, by decide⟩⟩, fun z => by cases z⟩ (all_cons ⟨call_V (n := 1) (T := TX7) (N := 26) (ok_X7_rule Γ) (rv_X7_rule (Γ := Γ)) rfl bw_802 bw_799 bw_800 bw_801 bw_49 no_X7_rule ⟨⟨rfl, rfl⟩, ⟨by decide, by decide⟩, ⟨by decide, by decide⟩⟩, fun z => by cases z⟩ (all_cons ⟨call_V (n := 2) (T := TX6) (N := 9) (ok_X6_wants Γ) (rv_X6_wants (Γ := Γ)) rfl bw_261 bw_258 bw_259 bw_260 bw_42 no_X6_wants ⟨⟨rfl, rfl⟩, ⟨by decide, by decide⟩, ⟨by decide, by decide⟩⟩, fun z => by cases z⟩ (all_cons ⟨call_V (n := 2) (T := TX7) (N := 26) (ok_X7_wants Γ) (rv_X7_wants (Γ := Γ)) rfl bw_806 bw_803 bw_804 bw_805 bw_49 no_X7_wants ⟨⟨rfl, rfl⟩, ⟨by decide, by decide⟩, ⟨by decide, by decide⟩⟩, fun z => by cases z⟩ (all_cons ⟨call_V (n := 2) (T := TX6) (N := 9) (ok_X6_of Γ) (rv_X6_of (Γ := Γ)) rfl bw_277 bw_274 bw_275 bw_276 bw_42 no_X6_of ⟨⟨rfl, rfl⟩, ⟨by decide, by decide⟩, ⟨by decide, by decide⟩⟩, fun z => by cases z⟩ (all_cons ⟨call_V (n := 2) (T := TX7) (N := 26) (ok_X7_of Γ) (rv_X7_of (Γ := Γ)) rfl bw_818 bw_815 bw_816 bw_817 bw_49 no_X7_of ⟨⟨rfl, rfl⟩, ⟨by decide, by decide⟩, ⟨by decide, by decide⟩⟩, fun z => by cases z⟩ (all_cons ⟨call_V (n := 2) (T := TX6) (N := 9) (ok_X6_at Γ) (rv_X6_at (Γ := Γ)) rfl bw_290 bw_287 bw_288 bw_289 bw_42 no_X6_at ⟨⟨rfl, rfl⟩, ⟨by decide, by decide⟩, ⟨by decide, by decide⟩⟩, fun z => by cases z⟩ (all_cons ⟨call_V (n := 2) (T := TX7) (N := 26) (ok_X7_at Γ) (rv_X7_at (Γ := Γ)) rfl bw_831 bw_828 bw_829 bw_830 bw_49 no_X7_at ⟨⟨rfl, rfl⟩, ⟨by decide, by decide⟩, ⟨by decide, by decide⟩⟩, fun z => by cases z⟩ (all_cons ⟨call_V (n := 1) (T := TX6) (N := 9) (ok_X6_type Γ) (rv_X6_type (Γ := Γ)) rfl bw_317 bw_314 bw_315 bw_316 bw_42 no_X6_type ⟨⟨rfl, rfl⟩, ⟨by decide, by decide⟩, ⟨by decide, by decide⟩⟩, fun z => by cases z⟩ (all_cons ⟨call_V (n := 1) (T := TX7) (N := 26) (ok_X7_type Γ) (rv_X7_type (Γ := Γ)) rfl bw_855 bw_852 bw_853 bw_854 bw_49 no_X7_type ⟨⟨rfl, rfl⟩, ⟨by decide, by decide⟩, ⟨by decide, by decide⟩⟩, fun z => by cases z⟩ (all_cons ⟨call_V (n := 0) (T := TX6) (N := 9) (ok_X6_college Γ) (rv_X6_college (Γ := Γ)) rfl bw_325 bw_322 bw_323 bw_324 bw_42 no_X6_college ⟨⟨rfl, rfl⟩, ⟨by decide, by decide⟩, ⟨by decide, by decide⟩⟩, fun z => by cases z⟩ (all_cons ⟨call_V (n := 0) (T := TX7) (N := 26) (ok_X7_college Γ) (rv_X7_college (Γ := Γ)) rfl bw_861 bw_858 bw_859 bw_860 bw_49 no_X7_college ⟨⟨rfl, rfl⟩, ⟨by decide, by decide⟩, ⟨by decide, by decide⟩⟩, fun z => by cases z⟩ (all_cons ⟨call_V (n := 1) (T := TX6) (N := 9) (ok_X6_count Γ) (rv_X6_count (Γ := Γ)) rfl bw_466 bw_463 bw_464 bw_465 bw_42 no_X6_count ⟨⟨rfl, rfl⟩, ⟨by decide, by decide⟩, ⟨by decide, by decide⟩⟩, fun z => by cases z⟩ (all_cons ⟨call_V (n := 1) (T := TX7) (N := 26) (ok_X7_count Γ) (rv_X7_count (Γ := Γ)) rfl bw_895 bw_892 bw_893 bw_894 bw_49 no_X7_count ⟨⟨rfl, rfl⟩, ⟨by decide, by decide⟩, ⟨by decide, by decide⟩⟩, fun z => by cases z⟩ (all_cons ⟨call_V (n := 1) (T := TX6) (N := 9) (ok_X6_days Γ) (rv_X6_days (Γ := Γ)) rfl bw_487 bw_484 bw_485 bw_486 bw_42 no_X6_days ⟨⟨rfl, rfl⟩, ⟨by decide, by decide⟩, ⟨by decide, by decide⟩⟩, fun z => by cases z⟩ (all_cons ⟨call_V (n := 1) (T := TX7) (N := 26) (ok_X7_days Γ) (rv_X7_days (Γ := Γ)) rfl bw_907 bw_904 bw_905 bw_906 bw_49 no_X7_days ⟨⟨rfl, rfl⟩, ⟨by decide, by decide⟩, ⟨by decide, by decide⟩⟩, fun z => by cases z⟩ (all_cons ⟨call_V (n := 3) (T := TX6) (N := 9) (ok_X6_talk Γ) (rv_X6_talk (Γ := Γ)) rfl bw_527 bw_524 bw_525 bw_526 bw_42 no_X6_talk ⟨⟨rfl, rfl⟩, ⟨by decide, by decide⟩, ⟨by decide, by decide⟩⟩, fun z => by cases z⟩ (all_cons ⟨call_V (n := 3) (T := TX7) (N := 26) (ok_X7_talk Γ) (rv_X7_talk (Γ := Γ)) rfl bw_932 bw_929 bw_930 bw_931 bw_49 no_X7_talk ⟨⟨rfl, rfl⟩, ⟨by decide, by decide⟩, ⟨by decide, by decide⟩⟩, fun z => by cases z⟩ (all_cons ⟨call_V (n := 2) (T := TX6) (N := 9) (ok_X6_give Γ) (rv_X6_give (Γ := Γ)) rfl bw_532 bw_529 bw_530 bw_531 bw_42 no_X6_give ⟨⟨rfl, rfl⟩, ⟨by decide, by decide⟩, ⟨by decide, by decide⟩⟩, fun z => by cases z⟩ (all_cons ⟨call_V (n := 2) (T := TX7) (N := 26) (ok_X7_give Γ) (rv_X7_give (Γ := Γ)) rfl bw_936 bw_933 bw_934 bw_935 bw_49 no_X7_give ⟨⟨rfl, rfl⟩, ⟨by decide, by decide⟩, ⟨by decide, by decide⟩⟩, fun z => by cases z⟩ (all_cons ⟨call_V (n := 1) (T := TX6) (N := 9) (ok_X6_drift Γ) (rv_X6_drift (Γ := Γ)) rfl bw_536 bw_533 bw_534 bw_535 bw_42 no_X6_drift ⟨⟨rfl, rfl⟩, ⟨by decide, by decide⟩, ⟨by decide, by decide⟩⟩, fun z => by cases z⟩ (all_cons ⟨call_V (n := 1) (T := TX7) (N := 26) (ok_X7_drift Γ) (rv_X7_drift (Γ := Γ)) rfl bw_940 bw_937 bw_938 bw_939 bw_49 no_X7_drift ⟨⟨rfl, rfl⟩, ⟨by decide, by decide⟩, ⟨by decide, by decide⟩⟩, fun z => by cases z⟩ (all_cons ⟨call_V (n := 0) (T := TX6) (N := 9) (ok_X6_undo Γ) (rv_X6_undo (Γ := Γ)) rfl bw_540 bw_537 bw_538 bw_539 bw_42 no_X6_undo ⟨⟨rfl, rfl⟩, ⟨by decide, by decide⟩, ⟨by decide, by decide⟩⟩, fun z => by cases z⟩ (all_cons ⟨call_V (n := 0) (T := TX7) (N := 26) (ok_X7_undo Γ) (rv_X7_undo (Γ := Γ)) rfl bw_948 bw_945 bw_946 bw_947 bw_49 no_X7_undo ⟨⟨rfl, rfl⟩, ⟨by decide, by decide⟩, ⟨by decide, by decide⟩⟩, fun z => by cases z⟩ (all_cons ⟨call_V (n := 1) (T := TX6) (N := 9) (ok_X6_seed Γ) (rv_X6_seed (Γ := Γ)) rfl bw_548 bw_545 bw_546 bw_547 bw_42 no_X6_seed ⟨⟨rfl, rfl⟩, ⟨by decide, by decide⟩, ⟨by decide, by decide⟩⟩, fun z => by cases z⟩ (all_cons ⟨call_V (n := 1) (T := TX7) (N := 26) (ok_X7_seed Γ) (rv_X7_seed (Γ := Γ)) rfl bw_952 bw_949 bw_950 bw_951 bw_49 no_X7_seed ⟨⟨rfl, rfl⟩, ⟨by decide, by decide⟩, ⟨by decide, by decide⟩⟩, fun z => by cases z⟩ (all_cons ⟨call_V (n := 2) (T := TX6) (N := 9) (ok_X6_keeper Γ) (rv_X6_keeper (Γ := Γ)) rfl bw_552 bw_549 bw_550 bw_551 bw_42 no_X6_keeper ⟨⟨rfl, rfl⟩, ⟨by decide, by decide⟩, ⟨by decide, by decide⟩⟩, fun z => by cases z⟩ (all_cons ⟨call_V (n := 2) (T := TX7) (N := 26) (ok_X7_keeper Γ) (rv_X7_keeper (Γ := Γ)) rfl bw_956 bw_953 bw_954 bw_955 bw_49 no_X7_keeper ⟨⟨rfl, rfl⟩, ⟨by decide, by decide⟩, ⟨by decide, by decide⟩⟩, fun z => by cases z⟩ (all_cons ⟨call_V (n := 3) (T := TX6) (N := 9) (ok_X6_ahead Γ) (rv_X6_ahead (Γ := Γ)) rfl bw_565 bw_562 bw_563 bw_564 bw_42 no_X6_ahead ⟨⟨rfl, rfl⟩, ⟨by decide, by decide⟩, ⟨by decide, by decide⟩⟩, fun z => by cases z⟩ (all_cons ⟨call_V (n := 3) (T := TX7) (N := 26) (ok_X7_ahead Γ) (rv_X7_ahead (Γ := Γ)) rfl bw_965 bw_962 bw_963 bw_964 bw_49 no_X7_ahead ⟨⟨rfl, rfl⟩, ⟨by decide, by decide⟩, ⟨by decide, by decide⟩⟩, fun z => by cases z⟩ (all_cons ⟨call_V (n := 1) (T := TX6) (N := 9) (ok_X6_then Γ) (rv_X6_then (Γ := Γ)) rfl bw_569 bw_566 bw_567 bw_568 bw_42 no_X6_then ⟨⟨rfl, rfl⟩, ⟨by decide, by decide⟩, ⟨by decide, by decide⟩⟩, fun z => by cases z⟩ (all_cons ⟨call_V (n := 1) (T := TX7) (N := 26) (ok_X7_then Γ) (rv_X7_then (Γ := Γ)) rfl bw_969 bw_966 bw_967 bw_968 bw_49 no_X7_then ⟨⟨rfl, rfl⟩, ⟨by decide, by decide⟩, ⟨by decide, by decide⟩⟩, fun z => by cases z⟩ (all_cons ⟨call_V (n := 1) (T := TX6) (N := 9) (ok_X6_in Γ) (rv_X6_in (Γ := Γ)) rfl bw_573 bw_570 bw_571 bw_572 bw_42 no_X6_in ⟨⟨rfl, rfl⟩, ⟨by decide, by decide⟩, ⟨by decide, by decide⟩⟩, fun z => by cases z⟩ (all_cons ⟨call_V (n := 1) (T := TX7) (N := 26) (ok_X7_in Γ) (rv_X7_in (Γ := Γ)) rfl bw_973 bw_970 bw_971 bw_972 bw_49 no_X7_in ⟨⟨rfl, rfl⟩, ⟨by decide, by decide⟩, ⟨by decide, by decide⟩⟩, fun z => by cases z⟩ (all_cons ⟨call_V (n := 1) (T := TX6) (N := 9) (ok_X6_holds Γ) (rv_X6_holds (Γ := Γ)) rfl bw_585 bw_582 bw_583 bw_584 bw_42 no_X6_holds ⟨⟨rfl, rfl⟩, ⟨by decide, by decide⟩, ⟨by decide, by decide⟩⟩, fun z => by cases z⟩ (all_cons ⟨call_V (n := 1) (T := TX7) (N := 26) (ok_X7_holds Γ) (rv_X7_holds (Γ := Γ)) rfl bw_977 bw_974 bw_975 bw_976 bw_49 no_X7_holds ⟨⟨rfl, rfl⟩, ⟨by decide, by decide⟩, ⟨by decide, by decide⟩⟩, fun z => by cases z⟩ (all_cons ⟨call_V (n := 2) (T := TX6) (N := 9) (ok_X6_had Γ) (rv_X6_had (Γ := Γ)) rfl bw_590 bw_587 bw_588 bw_589 bw_42 no_X6_had ⟨⟨rfl, rfl⟩, ⟨by decide, by decide⟩, ⟨by decide, by decide⟩⟩, fun z => by cases z⟩ (all_cons ⟨call_V (n := 2) (T := TX7) (N := 26) (ok_X7_had Γ) (rv_X7_had (Γ := Γ)) rfl bw_981 bw_978 bw_979 bw_980 bw_49 no_X7_had ⟨⟨rfl, rfl⟩, ⟨by decide, by decide⟩, ⟨by decide, by decide⟩⟩, fun z => by cases z⟩ (all_cons ⟨call_V (n := 2) (T := TX6) (N := 9) (ok_X6_keep Γ) (rv_X6_keep (Γ := Γ)) rfl bw_595 bw_592 bw_593 bw_594 bw_42 no_X6_keep ⟨⟨rfl, rfl⟩, ⟨by decide, by decide⟩, ⟨by decide, by decide⟩⟩, fun z => by cases z⟩ (all_cons ⟨call_V (n := 2) (T := TX7) (N := 26) (ok_X7_keep Γ) (rv_X7_keep (Γ := Γ)) rfl bw_985 bw_982 bw_983 bw_984 bw_49 no_X7_keep ⟨⟨rfl, rfl⟩, ⟨by decide, by decide⟩, ⟨by decide, by decide⟩⟩, fun z => by cases z⟩ (all_cons ⟨call_V (n := 2) (T := TX6) (N := 9) (ok_X6_tempt Γ) (rv_X6_tempt (Γ := Γ)) rfl bw_612 bw_609 bw_610 bw_611 bw_42 no_X6_tempt ⟨⟨rfl, rfl⟩, ⟨by decide, by decide⟩, ⟨by decide, by decide⟩⟩, fun z => by cases z⟩ (all_cons ⟨call_V (n := 2) (T := TX7) (N := 26) (ok_X7_tempt Γ) (rv_X7_tempt (Γ := Γ)) rfl bw_991 bw_988 bw_989 bw_990 bw_49 no_X7_tempt ⟨⟨rfl, rfl⟩, ⟨by decide, by decide⟩, ⟨by decide, by decide⟩⟩, fun z => by cases z⟩ (all_cons ⟨call_V (n := 1) (T := TX6) (N := 9) (ok_X6_strict Γ) (rv_X6_strict (Γ := Γ)) rfl bw_616 bw_613 bw_614 bw_615 bw_42 no_X6_strict ⟨⟨rfl, rfl⟩, ⟨by decide, by decide⟩, ⟨by decide, by decide⟩⟩, fun z => by cases z⟩ (all_cons ⟨call_V (n := 1) (T := TX7) (N := 26) (ok_X7_strict Γ) (rv_X7_strict (Γ := Γ)) rfl bw_995 bw_992 bw_993 bw_994 bw_49 no_X7_strict ⟨⟨rfl, rfl⟩, ⟨by decide, by decide⟩, ⟨by decide, by decide⟩⟩, fun z => by cases z⟩ (all_cons ⟨call_V (n := 3) (T := TX6) (N := 9) (ok_X6_yawn Γ) (rv_X6_yawn (Γ := Γ)) rfl bw_620 bw_617 bw_618 bw_619 bw_42 no_X6_yawn ⟨⟨rfl, rfl⟩, ⟨by decide, by decide⟩, ⟨by decide, by decide⟩⟩, fun z => by cases z⟩ (all_cons ⟨call_V (n := 3) (T := TX7) (N := 26) (ok_X7_yawn Γ) (rv_X7_yawn (Γ := Γ)) rfl bw_999 bw_996 bw_997 bw_998 bw_49 no_X7_yawn ⟨⟨rfl, rfl⟩, ⟨by decide, by decide⟩, ⟨by decide, by decide⟩⟩, fun z => by cases z⟩ (all_cons ⟨call_V (n := 0) (T := TX6) (N := 9) (ok_X6_image Γ) (rv_X6_image (Γ := Γ)) rfl bw_628 bw_625 bw_626 bw_627 bw_42 no_X6_image ⟨⟨rfl, rfl⟩, ⟨by decide, by decide⟩, ⟨by decide, by decide⟩⟩, fun z => by cases z⟩ (all_cons ⟨call_V (n := 0) (T := TX7) (N := 26) (ok_X7_image Γ) (rv_X7_image (Γ := Γ)) rfl bw_1004 bw_1001 bw_1002 bw_1003 bw_49 no_X7_image ⟨⟨rfl, rfl⟩, ⟨by decide, by decide⟩, ⟨by decide, by decide⟩⟩, fun z => by cases z⟩ (all_cons ⟨call_V (n := 0) (T := TX6) (N := 9) (ok_X6_restore Γ) (rv_X6_restore (Γ := Γ)) rfl bw_636 bw_633 bw_634 bw_635 bw_42 no_X6_restore ⟨⟨rfl, rfl⟩, ⟨by decide, by decide⟩, ⟨by decide, by decide⟩⟩, fun z => by cases z⟩ (all_cons ⟨call_V (n := 0) (T := TX7) (N := 26) (ok_X7_restore Γ) (rv_X7_restore (Γ := Γ)) rfl bw_1008 bw_1005 bw_1006 bw_1007 bw_49 no_X7_restore ⟨⟨rfl, rfl⟩, ⟨by decide, by decide⟩, ⟨by decide, by decide⟩⟩, fun z => by cases z⟩ (all_cons ⟨call_V (n := 7) (T := TX6) (N := 9) (ok_X6_told Γ) (rv_X6_told (Γ := Γ)) rfl bw_640 bw_637 bw_638 bw_639 bw_42 no_X6_told ⟨⟨rfl, rfl⟩, ⟨by decide, by decide⟩, ⟨by decide, by decide⟩⟩, fun z => by cases z⟩ (all_cons ⟨call_V (n := 7) (T := TX7) (N := 26) (ok_X7_told Γ) (rv_X7_told (Γ := Γ)) rfl bw_1012 bw_1009 bw_1010 bw_1011 bw_49 no_X7_told ⟨⟨rfl, rfl⟩, ⟨by decide, by decide⟩, ⟨by decide, by decide⟩⟩, fun z => by cases z⟩ (all_cons ⟨call_V (n := 6) (T := TX6) (N := 9) (ok_X6_film Γ) (rv_X6_film (Γ := Γ)) rfl bw_673 bw_670 bw_671 bw_672 bw_42 no_X6_film ⟨⟨rfl, rfl⟩, ⟨by decide, by decide⟩, ⟨by decide, by decide⟩⟩, fun z => by cases z⟩ (all_cons ⟨call_V (n := 6) (T := TX7) (N := 26) (ok_X7_film Γ) (rv_X7_film (Γ := Γ)) rfl bw_1047 bw_1044 bw_1045 bw_1046 bw_49 no_X7_film ⟨⟨rfl, rfl⟩, ⟨by decide, by decide⟩, ⟨by decide, by decide⟩⟩, fun z => by cases z⟩ (all_cons ⟨call_V (n := 3) (T := TX6) (N := 9) (ok_X6_sheet Γ) (rv_X6_sheet (Γ := Γ)) rfl bw_681 bw_678 bw_679 bw_680 bw_42 no_X6_sheet ⟨⟨rfl, rfl⟩, ⟨by decide, by decide⟩, ⟨by decide, by decide⟩⟩, fun z => by cases z⟩ (all_cons ⟨call_V (n := 3) (T := TX7) (N := 26) (ok_X7_sheet Γ) (rv_X7_sheet (Γ := Γ)) rfl bw_1052 bw_1049 bw_1050 bw_1051 bw_49 no_X7_sheet ⟨⟨rfl, rfl⟩, ⟨by decide, by decide⟩, ⟨by decide, by decide⟩⟩, fun z => by cases z⟩ (all_cons ⟨call_V (n := 1) (T := TX6) (N := 9) (ok_X6_drop Γ) (rv_X6_drop (Γ := Γ)) rfl bw_689 bw_686 bw_687 bw_688 bw_42 no_X6_drop ⟨⟨rfl, rfl⟩, ⟨by decide, by decide⟩, ⟨by decide, by decide⟩⟩, fun z => by cases z⟩ (all_cons ⟨call_V (n := 1) (T := TX7) (N := 26) (ok_X7_drop Γ) (rv_X7_drop (Γ := Γ)) rfl bw_1056 bw_1053 bw_1054 bw_1055 bw_49 no_X7_drop ⟨⟨rfl, rfl⟩, ⟨by decide, by decide⟩, ⟨by decide, by decide⟩⟩, fun z => by cases z⟩ (all_cons ⟨call_V (n := 4) (T := TX6) (N := 9) (ok_X6_item Γ) (rv_X6_item (Γ := Γ)) rfl bw_698 bw_695 bw_696 bw_697 bw_42 no_X6_item ⟨⟨rfl, rfl⟩, ⟨by decide, by decide⟩, ⟨by decide, by decide⟩⟩, fun z => by cases z⟩ (all_cons ⟨call_V (n := 4) (T := TX7) (N := 26) (ok_X7_item Γ) (rv_X7_item (Γ := Γ)) rfl bw_1060 bw_1057 bw_1058 bw_1059 bw_49 no_X7_item ⟨⟨rfl, rfl⟩, ⟨by decide, by decide⟩, ⟨by decide, by decide⟩⟩, fun z => by cases z⟩ (all_cons ⟨call_V (n := 5) (T := TX6) (N := 9) (ok_X6_copy Γ) (rv_X6_copy (Γ := Γ)) rfl bw_702 bw_699 bw_700 bw_701 bw_42 no_X6_copy ⟨⟨rfl, rfl⟩, ⟨by decide, by decide⟩, ⟨by decide, by decide⟩⟩, fun z => by cases z⟩ (all_cons ⟨call_V (n := 5) (T := TX7) (N := 26) (ok_X7_copy Γ) (rv_X7_copy (Γ := Γ)) rfl bw_1064 bw_1061 bw_1062 bw_1063 bw_49 no_X7_copy ⟨⟨rfl, rfl⟩, ⟨by decide, by decide⟩, ⟨by decide, by decide⟩⟩, fun z => by cases z⟩ (all_nil)))))))))))))))))))))))))))))))))))))))))))))))))))))))))))))))))
theorem mL_law_k : mL_law.1.cells = 600000 := rfl
theorem mL_law_s : mL_law.1.slots = 7302250 := rfl
/-- the class's calls leave the reference's cells, and the other way round -/
theorem Mod.keepX {Γ : Cx} {lab : Nat → Nat} {A : Nat × (Nat → Nat)} {s : MS} {σ σ' : Hp} (h : Mod Γ lab A s σ) (hf : frm (fX lab) σ σ') : Mod Γ lab A s σ' := by
  have hk : ∀ q, lab q = 30 → σ'.2 q = σ.2 q := fun q hq => hf.2 q (fun z => by have z' : lab q < 20 := z; omega)
  obtain ⟨⟨m1, l1, m2, l2⟩, e1, e2, h3, h4⟩ := h
  exact ⟨⟨by rw [hf.1]; exact m1, l1, by rw [hf.1]; exact m2, l2⟩, (hk _ l1).trans e1, (hk _ l2).trans e2, fun k hk' => ⟨by rw [hf.1]; exact (h3 k hk').1, (h3 k hk').2.1, (hk _ (h3 k hk').2.1).trans (h3 k hk').2.2⟩, h4⟩
theorem XW.keepM {Γ : Cx} {lab : Nat → Nat} {X : XA} {ψ : XS} {σ σ' : Hp} (h : XW Γ lab X ψ σ) (hf : frm (fL lab 30) σ σ') : XW Γ lab X ψ σ' :=
  h.keep (J := fun k => k = 30) hf ⟨by decide, rfl⟩ (Or.inl ⟨by decide, rfl⟩) (Or.inl (by decide)) (Or.inl ⟨by decide, rfl⟩) (Or.inl ⟨by decide, rfl⟩) (Or.inl ⟨by decide, rfl⟩) (Or.inl ⟨by decide, rfl⟩) (Or.inl (by decide)) (fun j _ => Or.inl ⟨by omega, rfl⟩)
theorem lin {i k L : Nat} (h : i + 8 ≤ L) (hL : L ≤ 4096) (hk : k < 8) : vp_in (nI i + nI k) L := by
  rw [nI_add]
  exact vp_in_nI (by omega) (by omega)
theorem lcmp {L i : Nat} (hL : L ≤ 4096) (hi : i ≤ 8200) : Int32.ofNat L - 8 < nI i ↔ L < i + 8 := by
  have e : (nI L - 8 : Int32).toInt = (L : Int) - 8 := by
    rw [Int32.toInt_sub, nI_toInt (by omega), show (8 : Int32).toInt = 8 by decide, Int.bmod_eq_of_le] <;> omega
  rw [show Int32.ofNat L = nI L from rfl, Int32.lt_iff_toInt_lt, e, nI_toInt (by omega)]
  omega
/-- behind a call: on with the loop -/
def LNext (Γ : Cx) (K : Option Value → Hp → Prop) (lab : Nat → Nat) (X : XA) (m : Nat) (ad : Nat → Nat) (i : Nat) : Prop := ∀ (σ2 : Hp) (ψ2 : XS) (s2 : MS), XW Γ lab X ψ2 σ2 → Mod Γ lab (m, ad) s2 σ2 → R ψ2 s2 → YG Γ mL_law K 1258 [(0, .ref Γ.2.2.2.2.2.2.1), (1, .ref X.1), (2, .ref m), (3, .int (nI i))] [] σ2
