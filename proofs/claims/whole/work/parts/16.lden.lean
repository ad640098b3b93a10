set_option maxRecDepth 20000 in
theorem tw324 : Cond.methodLink RL 13 yX7_grid ∈ wtb := wtb_mem 324 (by decide +kernel) (by decide +kernel)
set_option maxRecDepth 20000 in
theorem tw325 : Cond.instanceMethod yX7_grid ∈ wtb := wtb_mem 325 (by decide +kernel) (by decide +kernel)
set_option maxRecDepth 20000 in
theorem tw326 : Cond.selects RX7 yX7_grid yX7_grid ∈ wtb := wtb_mem 326 (by decide +kernel) (by decide +kernel)
set_option maxRecDepth 20000 in
theorem tw327 : Cond.code yX7_grid cX7_grid 3 (some .int) ∈ wtb := wtb_mem 327 (by decide +kernel) (by decide +kernel)
set_option maxRecDepth 20000 in
theorem tw757 : Cond.methodLink RL 17 yX8_grid ∈ wtb := wtb_mem 757 (by decide +kernel) (by decide +kernel)
set_option maxRecDepth 20000 in
theorem tw758 : Cond.instanceMethod yX8_grid ∈ wtb := wtb_mem 758 (by decide +kernel) (by decide +kernel)
set_option maxRecDepth 20000 in
theorem tw759 : Cond.selects RX8 yX8_grid yX8_grid ∈ wtb := wtb_mem 759 (by decide +kernel) (by decide +kernel)
set_option maxRecDepth 20000 in
theorem tw760 : Cond.code yX8_grid cX8_grid 4 (some .int) ∈ wtb := wtb_mem 760 (by decide +kernel) (by decide +kernel)
set_option maxRecDepth 20000 in
theorem tw351 : Cond.methodLink RL 18 yX7_cell ∈ wtb := wtb_mem 351 (by decide +kernel) (by decide +kernel)
set_option maxRecDepth 20000 in
theorem tw352 : Cond.instanceMethod yX7_cell ∈ wtb := wtb_mem 352 (by decide +kernel) (by decide +kernel)
set_option maxRecDepth 20000 in
theorem tw353 : Cond.selects RX7 yX7_cell yX7_cell ∈ wtb := wtb_mem 353 (by decide +kernel) (by decide +kernel)
set_option maxRecDepth 20000 in
theorem tw354 : Cond.code yX7_cell cX7_cell 6 (some .int) ∈ wtb := wtb_mem 354 (by decide +kernel) (by decide +kernel)
set_option maxRecDepth 20000 in
theorem tw764 : Cond.methodLink RL 22 yX8_cell ∈ wtb := wtb_mem 764 (by decide +kernel) (by decide +kernel)
set_option maxRecDepth 20000 in
theorem tw765 : Cond.instanceMethod yX8_cell ∈ wtb := wtb_mem 765 (by decide +kernel) (by decide +kernel)
set_option maxRecDepth 20000 in
theorem tw766 : Cond.selects RX8 yX8_cell yX8_cell ∈ wtb := wtb_mem 766 (by decide +kernel) (by decide +kernel)
set_option maxRecDepth 20000 in
theorem tw767 : Cond.code yX8_cell cX8_cell 7 (some .int) ∈ wtb := wtb_mem 767 (by decide +kernel) (by decide +kernel)
set_option maxRecDepth 20000 in
theorem tw361 : Cond.methodLink RL 23 yX7_weather ∈ wtb := wtb_mem 361 (by decide +kernel) (by decide +kernel)
set_option maxRecDepth 20000 in
theorem tw362 : Cond.instanceMethod yX7_weather ∈ wtb := wtb_mem 362 (by decide +kernel) (by decide +kernel)
set_option maxRecDepth 20000 in
theorem tw363 : Cond.selects RX7 yX7_weather yX7_weather ∈ wtb := wtb_mem 363 (by decide +kernel) (by decide +kernel)
set_option maxRecDepth 20000 in
theorem tw364 : Cond.code yX7_weather cX7_weather 5 (some .int) ∈ wtb := wtb_mem 364 (by decide +kernel) (by decide +kernel)
set_option maxRecDepth 20000 in
theorem tw772 : Cond.methodLink RL 27 yX8_weather ∈ wtb := wtb_mem 772 (by decide +kernel) (by decide +kernel)
set_option maxRecDepth 20000 in
theorem tw773 : Cond.instanceMethod yX8_weather ∈ wtb := wtb_mem 773 (by decide +kernel) (by decide +kernel)
set_option maxRecDepth 20000 in
theorem tw774 : Cond.selects RX8 yX8_weather yX8_weather ∈ wtb := wtb_mem 774 (by decide +kernel) (by decide +kernel)
set_option maxRecDepth 20000 in
theorem tw775 : Cond.code yX8_weather cX8_weather 5 (some .int) ∈ wtb := wtb_mem 775 (by decide +kernel) (by decide +kernel)
set_option maxRecDepth 20000 in
theorem tw369 : Cond.methodLink RL 28 yX7_seed ∈ wtb := wtb_mem 369 (by decide +kernel) (by decide +kernel)
set_option maxRecDepth 20000 in
theorem tw370 : Cond.instanceMethod yX7_seed ∈ wtb := wtb_mem 370 (by decide +kernel) (by decide +kernel)
set_option maxRecDepth 20000 in
theorem tw371 : Cond.selects RX7 yX7_seed yX7_seed ∈ wtb := wtb_mem 371 (by decide +kernel) (by decide +kernel)
set_option maxRecDepth 20000 in
theorem tw372 : Cond.code yX7_seed cX7_seed 3 (some .int) ∈ wtb := wtb_mem 372 (by decide +kernel) (by decide +kernel)
set_option maxRecDepth 20000 in
theorem tw776 : Cond.methodLink RL 32 yX8_seed ∈ wtb := wtb_mem 776 (by decide +kernel) (by decide +kernel)
set_option maxRecDepth 20000 in
theorem tw777 : Cond.instanceMethod yX8_seed ∈ wtb := wtb_mem 777 (by decide +kernel) (by decide +kernel)
set_option maxRecDepth 20000 in
theorem tw778 : Cond.selects RX8 yX8_seed yX8_seed ∈ wtb := wtb_mem 778 (by decide +kernel) (by decide +kernel)
set_option maxRecDepth 20000 in
theorem tw779 : Cond.code yX8_seed cX8_seed 3 (some .int) ∈ wtb := wtb_mem 779 (by decide +kernel) (by decide +kernel)
set_option maxRecDepth 20000 in
theorem tw373 : Cond.methodLink RL 33 yX7_light ∈ wtb := wtb_mem 373 (by decide +kernel) (by decide +kernel)
set_option maxRecDepth 20000 in
theorem tw374 : Cond.instanceMethod yX7_light ∈ wtb := wtb_mem 374 (by decide +kernel) (by decide +kernel)
set_option maxRecDepth 20000 in
theorem tw375 : Cond.selects RX7 yX7_light yX7_light ∈ wtb := wtb_mem 375 (by decide +kernel) (by decide +kernel)
set_option maxRecDepth 20000 in
theorem tw376 : Cond.code yX7_light cX7_light 3 (some .int) ∈ wtb := wtb_mem 376 (by decide +kernel) (by decide +kernel)
set_option maxRecDepth 20000 in
theorem tw780 : Cond.methodLink RL 36 yX8_light ∈ wtb := wtb_mem 780 (by decide +kernel) (by decide +kernel)
set_option maxRecDepth 20000 in
theorem tw781 : Cond.instanceMethod yX8_light ∈ wtb := wtb_mem 781 (by decide +kernel) (by decide +kernel)
set_option maxRecDepth 20000 in
theorem tw782 : Cond.selects RX8 yX8_light yX8_light ∈ wtb := wtb_mem 782 (by decide +kernel) (by decide +kernel)
set_option maxRecDepth 20000 in
theorem tw783 : Cond.code yX8_light cX8_light 3 (some .int) ∈ wtb := wtb_mem 783 (by decide +kernel) (by decide +kernel)
set_option maxRecDepth 20000 in
theorem tw381 : Cond.methodLink RL 37 yX7_clear ∈ wtb := wtb_mem 381 (by decide +kernel) (by decide +kernel)
set_option maxRecDepth 20000 in
theorem tw382 : Cond.instanceMethod yX7_clear ∈ wtb := wtb_mem 382 (by decide +kernel) (by decide +kernel)
set_option maxRecDepth 20000 in
theorem tw383 : Cond.selects RX7 yX7_clear yX7_clear ∈ wtb := wtb_mem 383 (by decide +kernel) (by decide +kernel)
set_option maxRecDepth 20000 in
theorem tw384 : Cond.code yX7_clear cX7_clear 2 (some .int) ∈ wtb := wtb_mem 384 (by decide +kernel) (by decide +kernel)
set_option maxRecDepth 20000 in
theorem tw784 : Cond.methodLink RL 41 yX8_clear ∈ wtb := wtb_mem 784 (by decide +kernel) (by decide +kernel)
set_option maxRecDepth 20000 in
theorem tw785 : Cond.instanceMethod yX8_clear ∈ wtb := wtb_mem 785 (by decide +kernel) (by decide +kernel)
set_option maxRecDepth 20000 in
theorem tw786 : Cond.selects RX8 yX8_clear yX8_clear ∈ wtb := wtb_mem 786 (by decide +kernel) (by decide +kernel)
set_option maxRecDepth 20000 in
theorem tw787 : Cond.code yX8_clear cX8_clear 2 (some .int) ∈ wtb := wtb_mem 787 (by decide +kernel) (by decide +kernel)
set_option maxRecDepth 20000 in
theorem tw385 : Cond.methodLink RL 42 yX7_step ∈ wtb := wtb_mem 385 (by decide +kernel) (by decide +kernel)
set_option maxRecDepth 20000 in
theorem tw386 : Cond.instanceMethod yX7_step ∈ wtb := wtb_mem 386 (by decide +kernel) (by decide +kernel)
set_option maxRecDepth 20000 in
theorem tw387 : Cond.selects RX7 yX7_step yX7_step ∈ wtb := wtb_mem 387 (by decide +kernel) (by decide +kernel)
set_option maxRecDepth 20000 in
theorem tw388 : Cond.code yX7_step cX7_step 3 (some .int) ∈ wtb := wtb_mem 388 (by decide +kernel) (by decide +kernel)
set_option maxRecDepth 20000 in
theorem tw796 : Cond.methodLink RL 45 yX8_step ∈ wtb := wtb_mem 796 (by decide +kernel) (by decide +kernel)
set_option maxRecDepth 20000 in
theorem tw797 : Cond.instanceMethod yX8_step ∈ wtb := wtb_mem 797 (by decide +kernel) (by decide +kernel)
set_option maxRecDepth 20000 in
theorem tw798 : Cond.selects RX8 yX8_step yX8_step ∈ wtb := wtb_mem 798 (by decide +kernel) (by decide +kernel)
set_option maxRecDepth 20000 in
theorem tw799 : Cond.code yX8_step cX8_step 3 (some .int) ∈ wtb := wtb_mem 799 (by decide +kernel) (by decide +kernel)
set_option maxRecDepth 20000 in
theorem tw562 : Cond.methodLink RL 46 yX7_about ∈ wtb := wtb_mem 562 (by decide +kernel) (by decide +kernel)
set_option maxRecDepth 20000 in
theorem tw563 : Cond.instanceMethod yX7_about ∈ wtb := wtb_mem 563 (by decide +kernel) (by decide +kernel)
set_option maxRecDepth 20000 in
theorem tw564 : Cond.selects RX7 yX7_about yX7_about ∈ wtb := wtb_mem 564 (by decide +kernel) (by decide +kernel)
set_option maxRecDepth 20000 in
theorem tw565 : Cond.code yX7_about cX7_about 3 (some .int) ∈ wtb := wtb_mem 565 (by decide +kernel) (by decide +kernel)
set_option maxRecDepth 20000 in
theorem tw916 : Cond.methodLink RL 49 yX8_about ∈ wtb := wtb_mem 916 (by decide +kernel) (by decide +kernel)
set_option maxRecDepth 20000 in
theorem tw917 : Cond.instanceMethod yX8_about ∈ wtb := wtb_mem 917 (by decide +kernel) (by decide +kernel)
set_option maxRecDepth 20000 in
theorem tw918 : Cond.selects RX8 yX8_about yX8_about ∈ wtb := wtb_mem 918 (by decide +kernel) (by decide +kernel)
set_option maxRecDepth 20000 in
theorem tw919 : Cond.code yX8_about cX8_about 3 (some .int) ∈ wtb := wtb_mem 919 (by decide +kernel) (by decide +kernel)
set_option maxRecDepth 20000 in
theorem tw566 : Cond.methodLink RL 50 yX7_many ∈ wtb := wtb_mem 566 (by decide +kernel) (by decide +kernel)
set_option maxRecDepth 20000 in
theorem tw567 : Cond.instanceMethod yX7_many ∈ wtb := wtb_mem 567 (by decide +kernel) (by decide +kernel)
set_option maxRecDepth 20000 in
theorem tw568 : Cond.selects RX7 yX7_many yX7_many ∈ wtb := wtb_mem 568 (by decide +kernel) (by decide +kernel)
set_option maxRecDepth 20000 in
theorem tw569 : Cond.code yX7_many cX7_many 4 (some .int) ∈ wtb := wtb_mem 569 (by decide +kernel) (by decide +kernel)
set_option maxRecDepth 20000 in
theorem tw920 : Cond.methodLink RL 53 yX8_many ∈ wtb := wtb_mem 920 (by decide +kernel) (by decide +kernel)
set_option maxRecDepth 20000 in
theorem tw921 : Cond.instanceMethod yX8_many ∈ wtb := wtb_mem 921 (by decide +kernel) (by decide +kernel)
set_option maxRecDepth 20000 in
theorem tw922 : Cond.selects RX8 yX8_many yX8_many ∈ wtb := wtb_mem 922 (by decide +kernel) (by decide +kernel)
set_option maxRecDepth 20000 in
theorem tw923 : Cond.code yX8_many cX8_many 4 (some .int) ∈ wtb := wtb_mem 923 (by decide +kernel) (by decide +kernel)
set_option maxRecDepth 20000 in
theorem tw570 : Cond.methodLink RL 54 yX7_told ∈ wtb := wtb_mem 570 (by decide +kernel) (by decide +kernel)
set_option maxRecDepth 20000 in
theorem tw571 : Cond.instanceMethod yX7_told ∈ wtb := wtb_mem 571 (by decide +kernel) (by decide +kernel)
set_option maxRecDepth 20000 in
theorem tw572 : Cond.selects RX7 yX7_told yX7_told ∈ wtb := wtb_mem 572 (by decide +kernel) (by decide +kernel)
set_option maxRecDepth 20000 in
theorem tw573 : Cond.code yX7_told cX7_told 2 (some .int) ∈ wtb := wtb_mem 573 (by decide +kernel) (by decide +kernel)
set_option maxRecDepth 20000 in
theorem tw924 : Cond.methodLink RL 57 yX8_told ∈ wtb := wtb_mem 924 (by decide +kernel) (by decide +kernel)
set_option maxRecDepth 20000 in
theorem tw925 : Cond.instanceMethod yX8_told ∈ wtb := wtb_mem 925 (by decide +kernel) (by decide +kernel)
set_option maxRecDepth 20000 in
theorem tw926 : Cond.selects RX8 yX8_told yX8_told ∈ wtb := wtb_mem 926 (by decide +kernel) (by decide +kernel)
set_option maxRecDepth 20000 in
theorem tw927 : Cond.code yX8_told cX8_told 2 (some .int) ∈ wtb := wtb_mem 927 (by decide +kernel) (by decide +kernel)
set_option maxRecDepth 20000 in
theorem tw575 : Cond.methodLink RL 58 yX7_sky ∈ wtb := wtb_mem 575 (by decide +kernel) (by decide +kernel)
set_option maxRecDepth 20000 in
theorem tw576 : Cond.instanceMethod yX7_sky ∈ wtb := wtb_mem 576 (by decide +kernel) (by decide +kernel)
set_option maxRecDepth 20000 in
theorem tw577 : Cond.selects RX7 yX7_sky yX7_sky ∈ wtb := wtb_mem 577 (by decide +kernel) (by decide +kernel)
set_option maxRecDepth 20000 in
theorem tw578 : Cond.code yX7_sky cX7_sky 3 (some .int) ∈ wtb := wtb_mem 578 (by decide +kernel) (by decide +kernel)
set_option maxRecDepth 20000 in
theorem tw788 : Cond.methodLink RL 61 yX8_sky ∈ wtb := wtb_mem 788 (by decide +kernel) (by decide +kernel)
set_option maxRecDepth 20000 in
theorem tw789 : Cond.instanceMethod yX8_sky ∈ wtb := wtb_mem 789 (by decide +kernel) (by decide +kernel)
set_option maxRecDepth 20000 in
theorem tw790 : Cond.selects RX8 yX8_sky yX8_sky ∈ wtb := wtb_mem 790 (by decide +kernel) (by decide +kernel)
set_option maxRecDepth 20000 in
theorem tw791 : Cond.code yX8_sky cX8_sky 4 (some .int) ∈ wtb := wtb_mem 791 (by decide +kernel) (by decide +kernel)
set_option maxRecDepth 20000 in
theorem tw581 : Cond.methodLink RL 62 yX7_front ∈ wtb := wtb_mem 581 (by decide +kernel) (by decide +kernel)
set_option maxRecDepth 20000 in
theorem tw582 : Cond.instanceMethod yX7_front ∈ wtb := wtb_mem 582 (by decide +kernel) (by decide +kernel)
set_option maxRecDepth 20000 in
theorem tw583 : Cond.selects RX7 yX7_front yX7_front ∈ wtb := wtb_mem 583 (by decide +kernel) (by decide +kernel)
set_option maxRecDepth 20000 in
theorem tw584 : Cond.code yX7_front cX7_front 4 (some .int) ∈ wtb := wtb_mem 584 (by decide +kernel) (by decide +kernel)
set_option maxRecDepth 20000 in
theorem tw932 : Cond.methodLink RL 65 yX8_front ∈ wtb := wtb_mem 932 (by decide +kernel) (by decide +kernel)
set_option maxRecDepth 20000 in
theorem tw933 : Cond.instanceMethod yX8_front ∈ wtb := wtb_mem 933 (by decide +kernel) (by decide +kernel)
set_option maxRecDepth 20000 in
theorem tw934 : Cond.selects RX8 yX8_front yX8_front ∈ wtb := wtb_mem 934 (by decide +kernel) (by decide +kernel)
set_option maxRecDepth 20000 in
theorem tw935 : Cond.code yX8_front cX8_front 7 (some .int) ∈ wtb := wtb_mem 935 (by decide +kernel) (by decide +kernel)
set_option maxRecDepth 20000 in
theorem tw590 : Cond.methodLink RL 66 yX7_crew ∈ wtb := wtb_mem 590 (by decide +kernel) (by decide +kernel)
set_option maxRecDepth 20000 in
theorem tw591 : Cond.instanceMethod yX7_crew ∈ wtb := wtb_mem 591 (by decide +kernel) (by decide +kernel)
set_option maxRecDepth 20000 in
theorem tw592 : Cond.selects RX7 yX7_crew yX7_crew ∈ wtb := wtb_mem 592 (by decide +kernel) (by decide +kernel)
set_option maxRecDepth 20000 in
theorem tw593 : Cond.code yX7_crew cX7_crew 2 (some .int) ∈ wtb := wtb_mem 593 (by decide +kernel) (by decide +kernel)
set_option maxRecDepth 20000 in
theorem tw884 : Cond.methodLink RL 69 yX8_crew ∈ wtb := wtb_mem 884 (by decide +kernel) (by decide +kernel)
set_option maxRecDepth 20000 in
theorem tw885 : Cond.instanceMethod yX8_crew ∈ wtb := wtb_mem 885 (by decide +kernel) (by decide +kernel)
set_option maxRecDepth 20000 in
theorem tw886 : Cond.selects RX8 yX8_crew yX8_crew ∈ wtb := wtb_mem 886 (by decide +kernel) (by decide +kernel)
set_option maxRecDepth 20000 in
theorem tw887 : Cond.code yX8_crew cX8_crew 4 (some .int) ∈ wtb := wtb_mem 887 (by decide +kernel) (by decide +kernel)
set_option maxRecDepth 20000 in
theorem tw599 : Cond.methodLink RL 70 yX7_plan ∈ wtb := wtb_mem 599 (by decide +kernel) (by decide +kernel)
set_option maxRecDepth 20000 in
theorem tw600 : Cond.instanceMethod yX7_plan ∈ wtb := wtb_mem 600 (by decide +kernel) (by decide +kernel)
set_option maxRecDepth 20000 in
theorem tw601 : Cond.selects RX7 yX7_plan yX7_plan ∈ wtb := wtb_mem 601 (by decide +kernel) (by decide +kernel)
set_option maxRecDepth 20000 in
theorem tw602 : Cond.code yX7_plan cX7_plan 5 (some .int) ∈ wtb := wtb_mem 602 (by decide +kernel) (by decide +kernel)
set_option maxRecDepth 20000 in
theorem tw888 : Cond.methodLink RL 74 yX8_plan ∈ wtb := wtb_mem 888 (by decide +kernel) (by decide +kernel)
set_option maxRecDepth 20000 in
theorem tw889 : Cond.instanceMethod yX8_plan ∈ wtb := wtb_mem 889 (by decide +kernel) (by decide +kernel)
set_option maxRecDepth 20000 in
theorem tw890 : Cond.selects RX8 yX8_plan yX8_plan ∈ wtb := wtb_mem 890 (by decide +kernel) (by decide +kernel)
set_option maxRecDepth 20000 in
theorem tw891 : Cond.code yX8_plan cX8_plan 6 (some .int) ∈ wtb := wtb_mem 891 (by decide +kernel) (by decide +kernel)
set_option maxRecDepth 20000 in
theorem tw611 : Cond.methodLink RL 75 yX7_halt ∈ wtb := wtb_mem 611 (by decide +kernel) (by decide +kernel)
set_option maxRecDepth 20000 in
theorem tw612 : Cond.instanceMethod yX7_halt ∈ wtb := wtb_mem 612 (by decide +kernel) (by decide +kernel)
set_option maxRecDepth 20000 in
theorem tw613 : Cond.selects RX7 yX7_halt yX7_halt ∈ wtb := wtb_mem 613 (by decide +kernel) (by decide +kernel)
set_option maxRecDepth 20000 in
theorem tw614 : Cond.code yX7_halt cX7_halt 4 (some .int) ∈ wtb := wtb_mem 614 (by decide +kernel) (by decide +kernel)
set_option maxRecDepth 20000 in
theorem tw896 : Cond.methodLink RL 78 yX8_halt ∈ wtb := wtb_mem 896 (by decide +kernel) (by decide +kernel)
set_option maxRecDepth 20000 in
theorem tw897 : Cond.instanceMethod yX8_halt ∈ wtb := wtb_mem 897 (by decide +kernel) (by decide +kernel)
set_option maxRecDepth 20000 in
theorem tw898 : Cond.selects RX8 yX8_halt yX8_halt ∈ wtb := wtb_mem 898 (by decide +kernel) (by decide +kernel)
set_option maxRecDepth 20000 in
theorem tw899 : Cond.code yX8_halt cX8_halt 4 (some .int) ∈ wtb := wtb_mem 899 (by decide +kernel) (by decide +kernel)
set_option maxRecDepth 20000 in
theorem tw616 : Cond.methodLink RL 79 yX7_ofCrew ∈ wtb := wtb_mem 616 (by decide +kernel) (by decide +kernel)
set_option maxRecDepth 20000 in
theorem tw617 : Cond.instanceMethod yX7_ofCrew ∈ wtb := wtb_mem 617 (by decide +kernel) (by decide +kernel)
set_option maxRecDepth 20000 in
theorem tw618 : Cond.selects RX7 yX7_ofCrew yX7_ofCrew ∈ wtb := wtb_mem 618 (by decide +kernel) (by decide +kernel)
set_option maxRecDepth 20000 in
theorem tw619 : Cond.code yX7_ofCrew cX7_ofCrew 4 (some .int) ∈ wtb := wtb_mem 619 (by decide +kernel) (by decide +kernel)
set_option maxRecDepth 20000 in
theorem tw900 : Cond.methodLink RL 82 yX8_ofCrew ∈ wtb := wtb_mem 900 (by decide +kernel) (by decide +kernel)
set_option maxRecDepth 20000 in
theorem tw901 : Cond.instanceMethod yX8_ofCrew ∈ wtb := wtb_mem 901 (by decide +kernel) (by decide +kernel)
set_option maxRecDepth 20000 in
theorem tw902 : Cond.selects RX8 yX8_ofCrew yX8_ofCrew ∈ wtb := wtb_mem 902 (by decide +kernel) (by decide +kernel)
set_option maxRecDepth 20000 in
theorem tw903 : Cond.code yX8_ofCrew cX8_ofCrew 4 (some .int) ∈ wtb := wtb_mem 903 (by decide +kernel) (by decide +kernel)
set_option maxRecDepth 20000 in
theorem tw620 : Cond.methodLink RL 83 yX7_strips ∈ wtb := wtb_mem 620 (by decide +kernel) (by decide +kernel)
set_option maxRecDepth 20000 in
theorem tw621 : Cond.instanceMethod yX7_strips ∈ wtb := wtb_mem 621 (by decide +kernel) (by decide +kernel)
set_option maxRecDepth 20000 in
theorem tw622 : Cond.selects RX7 yX7_strips yX7_strips ∈ wtb := wtb_mem 622 (by decide +kernel) (by decide +kernel)
set_option maxRecDepth 20000 in
theorem tw623 : Cond.code yX7_strips cX7_strips 2 (some .int) ∈ wtb := wtb_mem 623 (by decide +kernel) (by decide +kernel)
set_option maxRecDepth 20000 in
theorem tw904 : Cond.methodLink RL 86 yX8_strips ∈ wtb := wtb_mem 904 (by decide +kernel) (by decide +kernel)
set_option maxRecDepth 20000 in
theorem tw905 : Cond.instanceMethod yX8_strips ∈ wtb := wtb_mem 905 (by decide +kernel) (by decide +kernel)
set_option maxRecDepth 20000 in
theorem tw906 : Cond.selects RX8 yX8_strips yX8_strips ∈ wtb := wtb_mem 906 (by decide +kernel) (by decide +kernel)
set_option maxRecDepth 20000 in
theorem tw907 : Cond.code yX8_strips cX8_strips 5 (some .int) ∈ wtb := wtb_mem 907 (by decide +kernel) (by decide +kernel)
set_option maxRecDepth 20000 in
theorem tw626 : Cond.methodLink RL 87 yX7_balanced ∈ wtb := wtb_mem 626 (by decide +kernel) (by decide +kernel)
set_option maxRecDepth 20000 in
theorem tw627 : Cond.instanceMethod yX7_balanced ∈ wtb := wtb_mem 627 (by decide +kernel) (by decide +kernel)
set_option maxRecDepth 20000 in
theorem tw628 : Cond.selects RX7 yX7_balanced yX7_balanced ∈ wtb := wtb_mem 628 (by decide +kernel) (by decide +kernel)
set_option maxRecDepth 20000 in
theorem tw629 : Cond.code yX7_balanced cX7_balanced 3 (some .int) ∈ wtb := wtb_mem 629 (by decide +kernel) (by decide +kernel)
set_option maxRecDepth 20000 in
theorem tw908 : Cond.methodLink RL 91 yX8_balanced ∈ wtb := wtb_mem 908 (by decide +kernel) (by decide +kernel)
set_option maxRecDepth 20000 in
theorem tw909 : Cond.instanceMethod yX8_balanced ∈ wtb := wtb_mem 909 (by decide +kernel) (by decide +kernel)
set_option maxRecDepth 20000 in
theorem tw910 : Cond.selects RX8 yX8_balanced yX8_balanced ∈ wtb := wtb_mem 910 (by decide +kernel) (by decide +kernel)
set_option maxRecDepth 20000 in
theorem tw911 : Cond.code yX8_balanced cX8_balanced 3 (some .int) ∈ wtb := wtb_mem 911 (by decide +kernel) (by decide +kernel)
set_option maxRecDepth 20000 in
theorem tw630 : Cond.methodLink RL 92 yX7_strip ∈ wtb := wtb_mem 630 (by decide +kernel) (by decide +kernel)
set_option maxRecDepth 20000 in
theorem tw631 : Cond.instanceMethod yX7_strip ∈ wtb := wtb_mem 631 (by decide +kernel) (by decide +kernel)
set_option maxRecDepth 20000 in
theorem tw632 : Cond.selects RX7 yX7_strip yX7_strip ∈ wtb := wtb_mem 632 (by decide +kernel) (by decide +kernel)
set_option maxRecDepth 20000 in
theorem tw633 : Cond.code yX7_strip cX7_strip 3 (some .int) ∈ wtb := wtb_mem 633 (by decide +kernel) (by decide +kernel)
set_option maxRecDepth 20000 in
theorem tw912 : Cond.methodLink RL 95 yX8_strip ∈ wtb := wtb_mem 912 (by decide +kernel) (by decide +kernel)
set_option maxRecDepth 20000 in
theorem tw913 : Cond.instanceMethod yX8_strip ∈ wtb := wtb_mem 913 (by decide +kernel) (by decide +kernel)
set_option maxRecDepth 20000 in
theorem tw914 : Cond.selects RX8 yX8_strip yX8_strip ∈ wtb := wtb_mem 914 (by decide +kernel) (by decide +kernel)
set_option maxRecDepth 20000 in
theorem tw915 : Cond.code yX8_strip cX8_strip 3 (some .int) ∈ wtb := wtb_mem 915 (by decide +kernel) (by decide +kernel)
set_option maxRecDepth 20000 in
theorem tw634 : Cond.methodLink RL 96 yX7_keep ∈ wtb := wtb_mem 634 (by decide +kernel) (by decide +kernel)
set_option maxRecDepth 20000 in
theorem tw635 : Cond.instanceMethod yX7_keep ∈ wtb := wtb_mem 635 (by decide +kernel) (by decide +kernel)
set_option maxRecDepth 20000 in
theorem tw636 : Cond.selects RX7 yX7_keep yX7_keep ∈ wtb := wtb_mem 636 (by decide +kernel) (by decide +kernel)
set_option maxRecDepth 20000 in
theorem tw637 : Cond.code yX7_keep cX7_keep 2 (some .int) ∈ wtb := wtb_mem 637 (by decide +kernel) (by decide +kernel)
set_option maxRecDepth 20000 in
theorem tw936 : Cond.methodLink RL 99 yX8_keep ∈ wtb := wtb_mem 936 (by decide +kernel) (by decide +kernel)
set_option maxRecDepth 20000 in
theorem tw937 : Cond.instanceMethod yX8_keep ∈ wtb := wtb_mem 937 (by decide +kernel) (by decide +kernel)
set_option maxRecDepth 20000 in
theorem tw938 : Cond.selects RX8 yX8_keep yX8_keep ∈ wtb := wtb_mem 938 (by decide +kernel) (by decide +kernel)
set_option maxRecDepth 20000 in
theorem tw939 : Cond.code yX8_keep cX8_keep 2 (some .int) ∈ wtb := wtb_mem 939 (by decide +kernel) (by decide +kernel)
set_option maxRecDepth 20000 in
theorem tw658 : Cond.methodLink RL 100 yX7_back ∈ wtb := wtb_mem 658 (by decide +kernel) (by decide +kernel)
set_option maxRecDepth 20000 in
theorem tw659 : Cond.instanceMethod yX7_back ∈ wtb := wtb_mem 659 (by decide +kernel) (by decide +kernel)
set_option maxRecDepth 20000 in
theorem tw660 : Cond.selects RX7 yX7_back yX7_back ∈ wtb := wtb_mem 660 (by decide +kernel) (by decide +kernel)
set_option maxRecDepth 20000 in
theorem tw661 : Cond.code yX7_back cX7_back 2 (some .int) ∈ wtb := wtb_mem 661 (by decide +kernel) (by decide +kernel)
set_option maxRecDepth 20000 in
theorem tw944 : Cond.methodLink RL 103 yX8_back ∈ wtb := wtb_mem 944 (by decide +kernel) (by decide +kernel)
set_option maxRecDepth 20000 in
theorem tw945 : Cond.instanceMethod yX8_back ∈ wtb := wtb_mem 945 (by decide +kernel) (by decide +kernel)
set_option maxRecDepth 20000 in
theorem tw946 : Cond.selects RX8 yX8_back yX8_back ∈ wtb := wtb_mem 946 (by decide +kernel) (by decide +kernel)
set_option maxRecDepth 20000 in
theorem tw947 : Cond.code yX8_back cX8_back 3 (some .int) ∈ wtb := wtb_mem 947 (by decide +kernel) (by decide +kernel)
set_option maxRecDepth 20000 in
theorem tw662 : Cond.methodLink RL 104 yX7_differs ∈ wtb := wtb_mem 662 (by decide +kernel) (by decide +kernel)
set_option maxRecDepth 20000 in
theorem tw663 : Cond.instanceMethod yX7_differs ∈ wtb := wtb_mem 663 (by decide +kernel) (by decide +kernel)
set_option maxRecDepth 20000 in
theorem tw664 : Cond.selects RX7 yX7_differs yX7_differs ∈ wtb := wtb_mem 664 (by decide +kernel) (by decide +kernel)
set_option maxRecDepth 20000 in
theorem tw665 : Cond.code yX7_differs cX7_differs 4 (some .int) ∈ wtb := wtb_mem 665 (by decide +kernel) (by decide +kernel)
set_option maxRecDepth 20000 in
theorem tw956 : Cond.methodLink RL 107 yX8_differs ∈ wtb := wtb_mem 956 (by decide +kernel) (by decide +kernel)
set_option maxRecDepth 20000 in
theorem tw957 : Cond.instanceMethod yX8_differs ∈ wtb := wtb_mem 957 (by decide +kernel) (by decide +kernel)
set_option maxRecDepth 20000 in
theorem tw958 : Cond.selects RX8 yX8_differs yX8_differs ∈ wtb := wtb_mem 958 (by decide +kernel) (by decide +kernel)
set_option maxRecDepth 20000 in
theorem tw959 : Cond.code yX8_differs cX8_differs 7 (some .int) ∈ wtb := wtb_mem 959 (by decide +kernel) (by decide +kernel)
set_option maxRecDepth 20000 in
theorem tw670 : Cond.methodLink RL 108 yX7_ahead ∈ wtb := wtb_mem 670 (by decide +kernel) (by decide +kernel)
set_option maxRecDepth 20000 in
theorem tw671 : Cond.instanceMethod yX7_ahead ∈ wtb := wtb_mem 671 (by decide +kernel) (by decide +kernel)
set_option maxRecDepth 20000 in
theorem tw672 : Cond.selects RX7 yX7_ahead yX7_ahead ∈ wtb := wtb_mem 672 (by decide +kernel) (by decide +kernel)
set_option maxRecDepth 20000 in
theorem tw673 : Cond.code yX7_ahead cX7_ahead 4 (some .int) ∈ wtb := wtb_mem 673 (by decide +kernel) (by decide +kernel)
set_option maxRecDepth 20000 in
theorem tw960 : Cond.methodLink RL 111 yX8_ahead ∈ wtb := wtb_mem 960 (by decide +kernel) (by decide +kernel)
set_option maxRecDepth 20000 in
theorem tw961 : Cond.instanceMethod yX8_ahead ∈ wtb := wtb_mem 961 (by decide +kernel) (by decide +kernel)
set_option maxRecDepth 20000 in
theorem tw962 : Cond.selects RX8 yX8_ahead yX8_ahead ∈ wtb := wtb_mem 962 (by decide +kernel) (by decide +kernel)
set_option maxRecDepth 20000 in
theorem tw963 : Cond.code yX8_ahead cX8_ahead 5 (some .int) ∈ wtb := wtb_mem 963 (by decide +kernel) (by decide +kernel)
set_option maxRecDepth 20000 in
theorem tw676 : Cond.methodLink RL 12 yX8_init ∈ wtb := wtb_mem 676 (by decide +kernel) (by decide +kernel)
set_option maxRecDepth 20000 in
theorem tw677 : Cond.instanceMethod yX8_init ∈ wtb := wtb_mem 677 (by decide +kernel) (by decide +kernel)
set_option maxRecDepth 20000 in
theorem tw678 : Cond.code yX8_init cX8_init 1 none ∈ wtb := wtb_mem 678 (by decide +kernel) (by decide +kernel)
set_option maxRecDepth 20000 in
theorem tw674 : Cond.classLink RL 10 RX8 ∈ wtb := wtb_mem 674 (by decide +kernel) (by decide +kernel)
set_option maxRecDepth 20000 in
theorem tw675 : Cond.instantiable RX8 24 ∈ wtb := wtb_mem 675 (by decide +kernel) (by decide +kernel)
set_option maxRecDepth 20000 in
theorem tw16 : Cond.methodLink RL 9 yX7_init ∈ wtb := wtb_mem 16 (by decide +kernel) (by decide +kernel)
set_option maxRecDepth 20000 in
theorem tw17 : Cond.instanceMethod yX7_init ∈ wtb := wtb_mem 17 (by decide +kernel) (by decide +kernel)
set_option maxRecDepth 20000 in
theorem tw18 : Cond.code yX7_init cX7_init 2 none ∈ wtb := wtb_mem 18 (by decide +kernel) (by decide +kernel)
set_option maxRecDepth 20000 in
theorem tw14 : Cond.classLink RL 7 RX7 ∈ wtb := wtb_mem 14 (by decide +kernel) (by decide +kernel)
set_option maxRecDepth 20000 in
theorem tw15 : Cond.instantiable RX7 10 ∈ wtb := wtb_mem 15 (by decide +kernel) (by decide +kernel)
theorem hdy_X7_grid : yX7_grid.cls ≠ "java/lang/invoke/MethodHandle" ∧ yX7_grid.cls ≠ "java/lang/invoke/VarHandle" ∧ (parseMethodDescriptor yX7_grid.desc).map (fun d => d.parameters.length) = some 2 := by decide +kernel
theorem hdy_X8_grid : yX8_grid.cls ≠ "java/lang/invoke/MethodHandle" ∧ yX8_grid.cls ≠ "java/lang/invoke/VarHandle" ∧ (parseMethodDescriptor yX8_grid.desc).map (fun d => d.parameters.length) = some 2 := by decide +kernel
theorem hdy_X7_cell : yX7_cell.cls ≠ "java/lang/invoke/MethodHandle" ∧ yX7_cell.cls ≠ "java/lang/invoke/VarHandle" ∧ (parseMethodDescriptor yX7_cell.desc).map (fun d => d.parameters.length) = some 5 := by decide +kernel
theorem hdy_X8_cell : yX8_cell.cls ≠ "java/lang/invoke/MethodHandle" ∧ yX8_cell.cls ≠ "java/lang/invoke/VarHandle" ∧ (parseMethodDescriptor yX8_cell.desc).map (fun d => d.parameters.length) = some 5 := by decide +kernel
theorem hdy_X7_weather : yX7_weather.cls ≠ "java/lang/invoke/MethodHandle" ∧ yX7_weather.cls ≠ "java/lang/invoke/VarHandle" ∧ (parseMethodDescriptor yX7_weather.desc).map (fun d => d.parameters.length) = some 4 := by decide +kernel
theorem hdy_X8_weather : yX8_weather.cls ≠ "java/lang/invoke/MethodHandle" ∧ yX8_weather.cls ≠ "java/lang/invoke/VarHandle" ∧ (parseMethodDescriptor yX8_weather.desc).map (fun d => d.parameters.length) = some 4 := by decide +kernel
theorem hdy_X7_seed : yX7_seed.cls ≠ "java/lang/invoke/MethodHandle" ∧ yX7_seed.cls ≠ "java/lang/invoke/VarHandle" ∧ (parseMethodDescriptor yX7_seed.desc).map (fun d => d.parameters.length) = some 1 := by decide +kernel
theorem hdy_X8_seed : yX8_seed.cls ≠ "java/lang/invoke/MethodHandle" ∧ yX8_seed.cls ≠ "java/lang/invoke/VarHandle" ∧ (parseMethodDescriptor yX8_seed.desc).map (fun d => d.parameters.length) = some 1 := by decide +kernel
theorem hdy_X7_light : yX7_light.cls ≠ "java/lang/invoke/MethodHandle" ∧ yX7_light.cls ≠ "java/lang/invoke/VarHandle" ∧ (parseMethodDescriptor yX7_light.desc).map (fun d => d.parameters.length) = some 2 := by decide +kernel
theorem hdy_X8_light : yX8_light.cls ≠ "java/lang/invoke/MethodHandle" ∧ yX8_light.cls ≠ "java/lang/invoke/VarHandle" ∧ (parseMethodDescriptor yX8_light.desc).map (fun d => d.parameters.length) = some 2 := by decide +kernel
theorem hdy_X7_clear : yX7_clear.cls ≠ "java/lang/invoke/MethodHandle" ∧ yX7_clear.cls ≠ "java/lang/invoke/VarHandle" ∧ (parseMethodDescriptor yX7_clear.desc).map (fun d => d.parameters.length) = some 0 := by decide +kernel
theorem hdy_X8_clear : yX8_clear.cls ≠ "java/lang/invoke/MethodHandle" ∧ yX8_clear.cls ≠ "java/lang/invoke/VarHandle" ∧ (parseMethodDescriptor yX8_clear.desc).map (fun d => d.parameters.length) = some 0 := by decide +kernel
theorem hdy_X7_step : yX7_step.cls ≠ "java/lang/invoke/MethodHandle" ∧ yX7_step.cls ≠ "java/lang/invoke/VarHandle" ∧ (parseMethodDescriptor yX7_step.desc).map (fun d => d.parameters.length) = some 1 := by decide +kernel
theorem hdy_X8_step : yX8_step.cls ≠ "java/lang/invoke/MethodHandle" ∧ yX8_step.cls ≠ "java/lang/invoke/VarHandle" ∧ (parseMethodDescriptor yX8_step.desc).map (fun d => d.parameters.length) = some 1 := by decide +kernel
theorem hdy_X7_about : yX7_about.cls ≠ "java/lang/invoke/MethodHandle" ∧ yX7_about.cls ≠ "java/lang/invoke/VarHandle" ∧ (parseMethodDescriptor yX7_about.desc).map (fun d => d.parameters.length) = some 2 := by decide +kernel
theorem hdy_X8_about : yX8_about.cls ≠ "java/lang/invoke/MethodHandle" ∧ yX8_about.cls ≠ "java/lang/invoke/VarHandle" ∧ (parseMethodDescriptor yX8_about.desc).map (fun d => d.parameters.length) = some 2 := by decide +kernel
theorem hdy_X7_many : yX7_many.cls ≠ "java/lang/invoke/MethodHandle" ∧ yX7_many.cls ≠ "java/lang/invoke/VarHandle" ∧ (parseMethodDescriptor yX7_many.desc).map (fun d => d.parameters.length) = some 1 := by decide +kernel
theorem hdy_X8_many : yX8_many.cls ≠ "java/lang/invoke/MethodHandle" ∧ yX8_many.cls ≠ "java/lang/invoke/VarHandle" ∧ (parseMethodDescriptor yX8_many.desc).map (fun d => d.parameters.length) = some 1 := by decide +kernel
theorem hdy_X7_told : yX7_told.cls ≠ "java/lang/invoke/MethodHandle" ∧ yX7_told.cls ≠ "java/lang/invoke/VarHandle" ∧ (parseMethodDescriptor yX7_told.desc).map (fun d => d.parameters.length) = some 1 := by decide +kernel
theorem hdy_X8_told : yX8_told.cls ≠ "java/lang/invoke/MethodHandle" ∧ yX8_told.cls ≠ "java/lang/invoke/VarHandle" ∧ (parseMethodDescriptor yX8_told.desc).map (fun d => d.parameters.length) = some 1 := by decide +kernel
theorem hdy_X7_sky : yX7_sky.cls ≠ "java/lang/invoke/MethodHandle" ∧ yX7_sky.cls ≠ "java/lang/invoke/VarHandle" ∧ (parseMethodDescriptor yX7_sky.desc).map (fun d => d.parameters.length) = some 2 := by decide +kernel
theorem hdy_X8_sky : yX8_sky.cls ≠ "java/lang/invoke/MethodHandle" ∧ yX8_sky.cls ≠ "java/lang/invoke/VarHandle" ∧ (parseMethodDescriptor yX8_sky.desc).map (fun d => d.parameters.length) = some 2 := by decide +kernel
theorem hdy_X7_front : yX7_front.cls ≠ "java/lang/invoke/MethodHandle" ∧ yX7_front.cls ≠ "java/lang/invoke/VarHandle" ∧ (parseMethodDescriptor yX7_front.desc).map (fun d => d.parameters.length) = some 1 := by decide +kernel
theorem hdy_X8_front : yX8_front.cls ≠ "java/lang/invoke/MethodHandle" ∧ yX8_front.cls ≠ "java/lang/invoke/VarHandle" ∧ (parseMethodDescriptor yX8_front.desc).map (fun d => d.parameters.length) = some 1 := by decide +kernel
theorem hdy_X7_crew : yX7_crew.cls ≠ "java/lang/invoke/MethodHandle" ∧ yX7_crew.cls ≠ "java/lang/invoke/VarHandle" ∧ (parseMethodDescriptor yX7_crew.desc).map (fun d => d.parameters.length) = some 1 := by decide +kernel
theorem hdy_X8_crew : yX8_crew.cls ≠ "java/lang/invoke/MethodHandle" ∧ yX8_crew.cls ≠ "java/lang/invoke/VarHandle" ∧ (parseMethodDescriptor yX8_crew.desc).map (fun d => d.parameters.length) = some 1 := by decide +kernel
theorem hdy_X7_plan : yX7_plan.cls ≠ "java/lang/invoke/MethodHandle" ∧ yX7_plan.cls ≠ "java/lang/invoke/VarHandle" ∧ (parseMethodDescriptor yX7_plan.desc).map (fun d => d.parameters.length) = some 3 := by decide +kernel
theorem hdy_X8_plan : yX8_plan.cls ≠ "java/lang/invoke/MethodHandle" ∧ yX8_plan.cls ≠ "java/lang/invoke/VarHandle" ∧ (parseMethodDescriptor yX8_plan.desc).map (fun d => d.parameters.length) = some 3 := by decide +kernel
theorem hdy_X7_halt : yX7_halt.cls ≠ "java/lang/invoke/MethodHandle" ∧ yX7_halt.cls ≠ "java/lang/invoke/VarHandle" ∧ (parseMethodDescriptor yX7_halt.desc).map (fun d => d.parameters.length) = some 1 := by decide +kernel
theorem hdy_X8_halt : yX8_halt.cls ≠ "java/lang/invoke/MethodHandle" ∧ yX8_halt.cls ≠ "java/lang/invoke/VarHandle" ∧ (parseMethodDescriptor yX8_halt.desc).map (fun d => d.parameters.length) = some 1 := by decide +kernel
theorem hdy_X7_ofCrew : yX7_ofCrew.cls ≠ "java/lang/invoke/MethodHandle" ∧ yX7_ofCrew.cls ≠ "java/lang/invoke/VarHandle" ∧ (parseMethodDescriptor yX7_ofCrew.desc).map (fun d => d.parameters.length) = some 2 := by decide +kernel
theorem hdy_X8_ofCrew : yX8_ofCrew.cls ≠ "java/lang/invoke/MethodHandle" ∧ yX8_ofCrew.cls ≠ "java/lang/invoke/VarHandle" ∧ (parseMethodDescriptor yX8_ofCrew.desc).map (fun d => d.parameters.length) = some 2 := by decide +kernel
theorem hdy_X7_strips : yX7_strips.cls ≠ "java/lang/invoke/MethodHandle" ∧ yX7_strips.cls ≠ "java/lang/invoke/VarHandle" ∧ (parseMethodDescriptor yX7_strips.desc).map (fun d => d.parameters.length) = some 1 := by decide +kernel
theorem hdy_X8_strips : yX8_strips.cls ≠ "java/lang/invoke/MethodHandle" ∧ yX8_strips.cls ≠ "java/lang/invoke/VarHandle" ∧ (parseMethodDescriptor yX8_strips.desc).map (fun d => d.parameters.length) = some 1 := by decide +kernel
theorem hdy_X7_balanced : yX7_balanced.cls ≠ "java/lang/invoke/MethodHandle" ∧ yX7_balanced.cls ≠ "java/lang/invoke/VarHandle" ∧ (parseMethodDescriptor yX7_balanced.desc).map (fun d => d.parameters.length) = some 1 := by decide +kernel
theorem hdy_X8_balanced : yX8_balanced.cls ≠ "java/lang/invoke/MethodHandle" ∧ yX8_balanced.cls ≠ "java/lang/invoke/VarHandle" ∧ (parseMethodDescriptor yX8_balanced.desc).map (fun d => d.parameters.length) = some 1 := by decide +kernel
theorem hdy_X7_strip : yX7_strip.cls ≠ "java/lang/invoke/MethodHandle" ∧ yX7_strip.cls ≠ "java/lang/invoke/VarHandle" ∧ (parseMethodDescriptor yX7_strip.desc).map (fun d => d.parameters.length) = some 2 := by decide +kernel
theorem hdy_X8_strip : yX8_strip.cls ≠ "java/lang/invoke/MethodHandle" ∧ yX8_strip.cls ≠ "java/lang/invoke/VarHandle" ∧ (parseMethodDescriptor yX8_strip.desc).map (fun d => d.parameters.length) = some 2 := by decide +kernel
theorem hdy_X7_keep : yX7_keep.cls ≠ "java/lang/invoke/MethodHandle" ∧ yX7_keep.cls ≠ "java/lang/invoke/VarHandle" ∧ (parseMethodDescriptor yX7_keep.desc).map (fun d => d.parameters.length) = some 1 := by decide +kernel
theorem hdy_X8_keep : yX8_keep.cls ≠ "java/lang/invoke/MethodHandle" ∧ yX8_keep.cls ≠ "java/lang/invoke/VarHandle" ∧ (parseMethodDescriptor yX8_keep.desc).map (fun d => d.parameters.length) = some 1 := by decide +kernel
theorem hdy_X7_back : yX7_back.cls ≠ "java/lang/invoke/MethodHandle" ∧ yX7_back.cls ≠ "java/lang/invoke/VarHandle" ∧ (parseMethodDescriptor yX7_back.desc).map (fun d => d.parameters.length) = some 1 := by decide +kernel
theorem hdy_X8_back : yX8_back.cls ≠ "java/lang/invoke/MethodHandle" ∧ yX8_back.cls ≠ "java/lang/invoke/VarHandle" ∧ (parseMethodDescriptor yX8_back.desc).map (fun d => d.parameters.length) = some 1 := by decide +kernel
theorem hdy_X7_differs : yX7_differs.cls ≠ "java/lang/invoke/MethodHandle" ∧ yX7_differs.cls ≠ "java/lang/invoke/VarHandle" ∧ (parseMethodDescriptor yX7_differs.desc).map (fun d => d.parameters.length) = some 1 := by decide +kernel
theorem hdy_X8_differs : yX8_differs.cls ≠ "java/lang/invoke/MethodHandle" ∧ yX8_differs.cls ≠ "java/lang/invoke/VarHandle" ∧ (parseMethodDescriptor yX8_differs.desc).map (fun d => d.parameters.length) = some 1 := by decide +kernel
theorem hdy_X7_ahead : yX7_ahead.cls ≠ "java/lang/invoke/MethodHandle" ∧ yX7_ahead.cls ≠ "java/lang/invoke/VarHandle" ∧ (parseMethodDescriptor yX7_ahead.desc).map (fun d => d.parameters.length) = some 2 := by decide +kernel
theorem hdy_X8_ahead : yX8_ahead.cls ≠ "java/lang/invoke/MethodHandle" ∧ yX8_ahead.cls ≠ "java/lang/invoke/VarHandle" ∧ (parseMethodDescriptor yX8_ahead.desc).map (fun d => d.parameters.length) = some 2 := by decide +kernel
theorem hdy_X8_init : yX8_init.cls ≠ "java/lang/invoke/MethodHandle" ∧ yX8_init.cls ≠ "java/lang/invoke/VarHandle" ∧ (parseMethodDescriptor yX8_init.desc).map (fun d => d.parameters.length) = some 0 := by decide +kernel
theorem dv_8 : hg_dv 8 24 tyX8 := by
  unfold hg_dv
  decide +kernel
theorem hdy_X7_init : yX7_init.cls ≠ "java/lang/invoke/MethodHandle" ∧ yX7_init.cls ≠ "java/lang/invoke/VarHandle" ∧ (parseMethodDescriptor yX7_init.desc).map (fun d => d.parameters.length) = some 0 := by decide +kernel
theorem dv_7 : hg_dv 7 10 tyX7 := by
  unfold hg_dv
  decide +kernel
def BL_c0 (N L : Nat) (xs : Nat → Int32) (k : hf_K hf_M) : hf_K hf_M := (c_aload 1 (c_aload 0 (c_iload 3 (c_const (1) (c_iadd (c_sld L xs (c_aload 0 (c_iload 3 (c_const (2) (c_iadd (c_sld L xs (c_callV 7 2 (fX7_grid N) (c_aload 2 (c_aload 0 (c_iload 3 (c_const (1) (c_iadd (c_sld L xs (c_aload 0 (c_iload 3 (c_const (2) (c_iadd (c_sld L xs (c_callV 8 2 (fX8_grid N) (c_icmpeq (c_iinc 3 (6) (c_goto k)) (c_const (0) c_lret))))))))))))))))))))))))))
def BL_c1 (N L : Nat) (xs : Nat → Int32) (k : hf_K hf_M) : hf_K hf_M := (c_aload 1 (c_aload 0 (c_iload 3 (c_const (1) (c_iadd (c_sld L xs (c_aload 0 (c_iload 3 (c_const (2) (c_iadd (c_sld L xs (c_aload 0 (c_iload 3 (c_const (3) (c_iadd (c_sld L xs (c_aload 0 (c_iload 3 (c_const (4) (c_iadd (c_sld L xs (c_aload 0 (c_iload 3 (c_const (5) (c_iadd (c_sld L xs (c_callV 7 5 (fX7_cell N) (c_aload 2 (c_aload 0 (c_iload 3 (c_const (1) (c_iadd (c_sld L xs (c_aload 0 (c_iload 3 (c_const (2) (c_iadd (c_sld L xs (c_aload 0 (c_iload 3 (c_const (3) (c_iadd (c_sld L xs (c_aload 0 (c_iload 3 (c_const (4) (c_iadd (c_sld L xs (c_aload 0 (c_iload 3 (c_const (5) (c_iadd (c_sld L xs (c_callV 8 5 (fX8_cell N) (c_icmpeq (c_iinc 3 (6) (c_goto k)) (c_const (0) c_lret))))))))))))))))))))))))))))))))))))))))))))))))))))))))
def BL_c2 (N L : Nat) (xs : Nat → Int32) (k : hf_K hf_M) : hf_K hf_M := (c_aload 1 (c_aload 0 (c_iload 3 (c_const (1) (c_iadd (c_sld L xs (c_aload 0 (c_iload 3 (c_const (2) (c_iadd (c_sld L xs (c_aload 0 (c_iload 3 (c_const (3) (c_iadd (c_sld L xs (c_aload 0 (c_iload 3 (c_const (4) (c_iadd (c_sld L xs (c_callV 7 4 (fX7_weather N) (c_aload 2 (c_aload 0 (c_iload 3 (c_const (1) (c_iadd (c_sld L xs (c_aload 0 (c_iload 3 (c_const (2) (c_iadd (c_sld L xs (c_aload 0 (c_iload 3 (c_const (3) (c_iadd (c_sld L xs (c_aload 0 (c_iload 3 (c_const (4) (c_iadd (c_sld L xs (c_callV 8 4 (fX8_weather N) (c_icmpeq (c_iinc 3 (6) (c_goto k)) (c_const (0) c_lret))))))))))))))))))))))))))))))))))))))))))))))
def BL_c3 (N L : Nat) (xs : Nat → Int32) (k : hf_K hf_M) : hf_K hf_M := (c_aload 1 (c_aload 0 (c_iload 3 (c_const (1) (c_iadd (c_sld L xs (c_callV 7 1 (fX7_seed N) (c_aload 2 (c_aload 0 (c_iload 3 (c_const (1) (c_iadd (c_sld L xs (c_callV 8 1 (fX8_seed N) (c_icmpeq (c_iinc 3 (6) (c_goto k)) (c_const (0) c_lret))))))))))))))))
def BL_c4 (N L : Nat) (xs : Nat → Int32) (k : hf_K hf_M) : hf_K hf_M := (c_aload 1 (c_aload 0 (c_iload 3 (c_const (1) (c_iadd (c_sld L xs (c_aload 0 (c_iload 3 (c_const (2) (c_iadd (c_sld L xs (c_callV 7 2 (fX7_light N) (c_aload 2 (c_aload 0 (c_iload 3 (c_const (1) (c_iadd (c_sld L xs (c_aload 0 (c_iload 3 (c_const (2) (c_iadd (c_sld L xs (c_callV 8 2 (fX8_light N) (c_icmpeq (c_iinc 3 (6) (c_goto k)) (c_const (0) c_lret))))))))))))))))))))))))))
def BL_c5 (N L : Nat) (xs : Nat → Int32) (k : hf_K hf_M) : hf_K hf_M := (c_aload 1 (c_callV 7 0 (fX7_clear N) (c_aload 2 (c_callV 8 0 (fX8_clear N) (c_icmpeq (c_iinc 3 (6) (c_goto k)) (c_const (0) c_lret))))))
def BL_c6 (N L : Nat) (xs : Nat → Int32) (k : hf_K hf_M) : hf_K hf_M := (c_aload 1 (c_aload 0 (c_iload 3 (c_const (1) (c_iadd (c_sld L xs (c_callV 7 1 (fX7_step N) (c_aload 2 (c_aload 0 (c_iload 3 (c_const (1) (c_iadd (c_sld L xs (c_callV 8 1 (fX8_step N) (c_icmpeq (c_iinc 3 (6) (c_goto k)) (c_const (0) c_lret))))))))))))))))
def BL_c7 (N L : Nat) (xs : Nat → Int32) (k : hf_K hf_M) : hf_K hf_M := (c_aload 1 (c_aload 0 (c_iload 3 (c_const (1) (c_iadd (c_sld L xs (c_aload 0 (c_iload 3 (c_const (2) (c_iadd (c_sld L xs (c_callV 7 2 (fX7_about N) (c_aload 2 (c_aload 0 (c_iload 3 (c_const (1) (c_iadd (c_sld L xs (c_aload 0 (c_iload 3 (c_const (2) (c_iadd (c_sld L xs (c_callV 8 2 (fX8_about N) (c_icmpeq (c_iinc 3 (6) (c_goto k)) (c_const (0) c_lret))))))))))))))))))))))))))
def BL_c8 (N L : Nat) (xs : Nat → Int32) (k : hf_K hf_M) : hf_K hf_M := (c_aload 1 (c_aload 0 (c_iload 3 (c_const (1) (c_iadd (c_sld L xs (c_callV 7 1 (fX7_many N) (c_aload 2 (c_aload 0 (c_iload 3 (c_const (1) (c_iadd (c_sld L xs (c_callV 8 1 (fX8_many N) (c_icmpeq (c_iinc 3 (6) (c_goto k)) (c_const (0) c_lret))))))))))))))))
def BL_c9 (N L : Nat) (xs : Nat → Int32) (k : hf_K hf_M) : hf_K hf_M := (c_aload 1 (c_aload 0 (c_iload 3 (c_const (1) (c_iadd (c_sld L xs (c_callV 7 1 (fX7_told N) (c_aload 2 (c_aload 0 (c_iload 3 (c_const (1) (c_iadd (c_sld L xs (c_callV 8 1 (fX8_told N) (c_icmpeq (c_iinc 3 (6) (c_goto k)) (c_const (0) c_lret))))))))))))))))
def BL_c10 (N L : Nat) (xs : Nat → Int32) (k : hf_K hf_M) : hf_K hf_M := (c_aload 1 (c_aload 0 (c_iload 3 (c_const (1) (c_iadd (c_sld L xs (c_aload 0 (c_iload 3 (c_const (2) (c_iadd (c_sld L xs (c_callV 7 2 (fX7_sky N) (c_aload 2 (c_aload 0 (c_iload 3 (c_const (1) (c_iadd (c_sld L xs (c_aload 0 (c_iload 3 (c_const (2) (c_iadd (c_sld L xs (c_callV 8 2 (fX8_sky N) (c_icmpeq (c_iinc 3 (6) (c_goto k)) (c_const (0) c_lret))))))))))))))))))))))))))
def BL_c11 (N L : Nat) (xs : Nat → Int32) (k : hf_K hf_M) : hf_K hf_M := (c_aload 1 (c_aload 0 (c_iload 3 (c_const (1) (c_iadd (c_sld L xs (c_callV 7 1 (fX7_front N) (c_aload 2 (c_aload 0 (c_iload 3 (c_const (1) (c_iadd (c_sld L xs (c_callV 8 1 (fX8_front N) (c_icmpeq (c_iinc 3 (6) (c_goto k)) (c_const (0) c_lret))))))))))))))))
def BL_c12 (N L : Nat) (xs : Nat → Int32) (k : hf_K hf_M) : hf_K hf_M := (c_aload 1 (c_aload 0 (c_iload 3 (c_const (1) (c_iadd (c_sld L xs (c_callV 7 1 (fX7_crew N) (c_aload 2 (c_aload 0 (c_iload 3 (c_const (1) (c_iadd (c_sld L xs (c_callV 8 1 (fX8_crew N) (c_icmpeq (c_iinc 3 (6) (c_goto k)) (c_const (0) c_lret))))))))))))))))
def BL_c13 (N L : Nat) (xs : Nat → Int32) (k : hf_K hf_M) : hf_K hf_M := (c_aload 1 (c_aload 0 (c_iload 3 (c_const (1) (c_iadd (c_sld L xs (c_aload 0 (c_iload 3 (c_const (2) (c_iadd (c_sld L xs (c_aload 0 (c_iload 3 (c_const (3) (c_iadd (c_sld L xs (c_callV 7 3 (fX7_plan N) (c_aload 2 (c_aload 0 (c_iload 3 (c_const (1) (c_iadd (c_sld L xs (c_aload 0 (c_iload 3 (c_const (2) (c_iadd (c_sld L xs (c_aload 0 (c_iload 3 (c_const (3) (c_iadd (c_sld L xs (c_callV 8 3 (fX8_plan N) (c_icmpeq (c_iinc 3 (6) (c_goto k)) (c_const (0) c_lret))))))))))))))))))))))))))))))))))))
def BL_c14 (N L : Nat) (xs : Nat → Int32) (k : hf_K hf_M) : hf_K hf_M := (c_aload 1 (c_aload 0 (c_iload 3 (c_const (1) (c_iadd (c_sld L xs (c_callV 7 1 (fX7_halt N) (c_aload 2 (c_aload 0 (c_iload 3 (c_const (1) (c_iadd (c_sld L xs (c_callV 8 1 (fX8_halt N) (c_icmpeq (c_iinc 3 (6) (c_goto k)) (c_const (0) c_lret))))))))))))))))
def BL_c15 (N L : Nat) (xs : Nat → Int32) (k : hf_K hf_M) : hf_K hf_M := (c_aload 1 (c_aload 0 (c_iload 3 (c_const (1) (c_iadd (c_sld L xs (c_aload 0 (c_iload 3 (c_const (2) (c_iadd (c_sld L xs (c_callV 7 2 (fX7_ofCrew N) (c_aload 2 (c_aload 0 (c_iload 3 (c_const (1) (c_iadd (c_sld L xs (c_aload 0 (c_iload 3 (c_const (2) (c_iadd (c_sld L xs (c_callV 8 2 (fX8_ofCrew N) (c_icmpeq (c_iinc 3 (6) (c_goto k)) (c_const (0) c_lret))))))))))))))))))))))))))
def BL_c16 (N L : Nat) (xs : Nat → Int32) (k : hf_K hf_M) : hf_K hf_M := (c_aload 1 (c_aload 0 (c_iload 3 (c_const (1) (c_iadd (c_sld L xs (c_callV 7 1 (fX7_strips N) (c_aload 2 (c_aload 0 (c_iload 3 (c_const (1) (c_iadd (c_sld L xs (c_callV 8 1 (fX8_strips N) (c_icmpeq (c_iinc 3 (6) (c_goto k)) (c_const (0) c_lret))))))))))))))))
def BL_c17 (N L : Nat) (xs : Nat → Int32) (k : hf_K hf_M) : hf_K hf_M := (c_aload 1 (c_aload 0 (c_iload 3 (c_const (1) (c_iadd (c_sld L xs (c_ifeq (c_const (0) (c_callV 7 1 (fX7_balanced N) (c_aload 2 (c_aload 0 (c_iload 3 (c_const (1) (c_iadd (c_sld L xs (c_ifeq (c_const (0) (c_callV 8 1 (fX8_balanced N) (c_icmpeq (c_iinc 3 (6) (c_goto k)) (c_const (0) c_lret)))) (c_const (1) (c_goto (c_callV 8 1 (fX8_balanced N) (c_icmpeq (c_iinc 3 (6) (c_goto k)) (c_const (0) c_lret)))))))))))))) (c_const (1) (c_goto (c_callV 7 1 (fX7_balanced N) (c_aload 2 (c_aload 0 (c_iload 3 (c_const (1) (c_iadd (c_sld L xs (c_ifeq (c_const (0) (c_callV 8 1 (fX8_balanced N) (c_icmpeq (c_iinc 3 (6) (c_goto k)) (c_const (0) c_lret)))) (c_const (1) (c_goto (c_callV 8 1 (fX8_balanced N) (c_icmpeq (c_iinc 3 (6) (c_goto k)) (c_const (0) c_lret))))))))))))))))))))))
def BL_c18 (N L : Nat) (xs : Nat → Int32) (k : hf_K hf_M) : hf_K hf_M := (c_aload 1 (c_aload 0 (c_iload 3 (c_const (1) (c_iadd (c_sld L xs (c_aload 0 (c_iload 3 (c_const (2) (c_iadd (c_sld L xs (c_callV 7 2 (fX7_strip N) (c_aload 2 (c_aload 0 (c_iload 3 (c_const (1) (c_iadd (c_sld L xs (c_aload 0 (c_iload 3 (c_const (2) (c_iadd (c_sld L xs (c_callV 8 2 (fX8_strip N) (c_icmpeq (c_iinc 3 (6) (c_goto k)) (c_const (0) c_lret))))))))))))))))))))))))))
def BL_c19 (N L : Nat) (xs : Nat → Int32) (k : hf_K hf_M) : hf_K hf_M := (c_aload 1 (c_aload 0 (c_iload 3 (c_const (1) (c_iadd (c_sld L xs (c_callV 7 1 (fX7_keep N) (c_aload 2 (c_aload 0 (c_iload 3 (c_const (1) (c_iadd (c_sld L xs (c_callV 8 1 (fX8_keep N) (c_icmpeq (c_iinc 3 (6) (c_goto k)) (c_const (0) c_lret))))))))))))))))
def BL_c20 (N L : Nat) (xs : Nat → Int32) (k : hf_K hf_M) : hf_K hf_M := (c_aload 1 (c_aload 0 (c_iload 3 (c_const (1) (c_iadd (c_sld L xs (c_callV 7 1 (fX7_back N) (c_aload 2 (c_aload 0 (c_iload 3 (c_const (1) (c_iadd (c_sld L xs (c_callV 8 1 (fX8_back N) (c_icmpeq (c_iinc 3 (6) (c_goto k)) (c_const (0) c_lret))))))))))))))))
def BL_c21 (N L : Nat) (xs : Nat → Int32) (k : hf_K hf_M) : hf_K hf_M := (c_aload 1 (c_aload 0 (c_iload 3 (c_const (1) (c_iadd (c_sld L xs (c_callV 7 1 (fX7_differs N) (c_aload 2 (c_aload 0 (c_iload 3 (c_const (1) (c_iadd (c_sld L xs (c_callV 8 1 (fX8_differs N) (c_icmpeq (c_iinc 3 (6) (c_goto k)) (c_const (0) c_lret))))))))))))))))
def BL_c22 (N L : Nat) (xs : Nat → Int32) (k : hf_K hf_M) : hf_K hf_M := (c_aload 1 (c_aload 0 (c_iload 3 (c_const (1) (c_iadd (c_sld L xs (c_aload 0 (c_iload 3 (c_const (2) (c_iadd (c_sld L xs (c_callV 7 2 (fX7_ahead N) (c_aload 2 (c_aload 0 (c_iload 3 (c_const (1) (c_iadd (c_sld L xs (c_aload 0 (c_iload 3 (c_const (2) (c_iadd (c_sld L xs (c_callV 8 2 (fX8_ahead N) (c_icmpeq (c_iinc 3 (6) (c_goto k)) (c_const (0) c_lret))))))))))))))))))))))))))
def BL_cd (N L : Nat) (xs : Nat → Int32) (k : hf_K hf_M) : hf_K hf_M := (c_iinc 3 (6) (c_goto k))
def BL_18 (N L : Nat) (xs : Nat → Int32) : Nat → hf_K hf_M
  | 0 => c_none
  | n + 1 => (c_iload 3 (c_aload 0 (c_slen L (c_const (6) (c_isub (c_icmpgt (c_const (1) c_lret) (c_aload 0 (c_iload 3 (c_sld L xs (c_const (31) (c_iand (c_tsw [BL_c0 N L xs (BL_18 N L xs n), BL_c1 N L xs (BL_18 N L xs n), BL_c2 N L xs (BL_18 N L xs n), BL_c3 N L xs (BL_18 N L xs n), BL_c4 N L xs (BL_18 N L xs n), BL_c5 N L xs (BL_18 N L xs n), BL_c6 N L xs (BL_18 N L xs n), BL_c7 N L xs (BL_18 N L xs n), BL_c8 N L xs (BL_18 N L xs n), BL_c9 N L xs (BL_18 N L xs n), BL_c10 N L xs (BL_18 N L xs n), BL_c11 N L xs (BL_18 N L xs n), BL_c12 N L xs (BL_18 N L xs n), BL_c13 N L xs (BL_18 N L xs n), BL_c14 N L xs (BL_18 N L xs n), BL_c15 N L xs (BL_18 N L xs n), BL_c16 N L xs (BL_18 N L xs n), BL_c17 N L xs (BL_18 N L xs n), BL_c18 N L xs (BL_18 N L xs n), BL_c19 N L xs (BL_18 N L xs n), BL_c20 N L xs (BL_18 N L xs n), BL_c21 N L xs (BL_18 N L xs n), BL_c22 N L xs (BL_18 N L xs n)] (BL_cd N L xs (BL_18 N L xs n))))))))))))))
def BL_16 (N L : Nat) (xs : Nat → Int32) : hf_K hf_M := (c_const (0) (c_istore 3 (BL_18 N L xs N)))
def EL_law (N L : Nat) (xs : Nat → Int32) : hf_K hg_M := (d_new 7 215 (c_dup (d_callI 0 215 (gX7_init N) (c_astore 1 (d_new 8 215 (c_dup (d_callI 0 215 (gX8_init N) (c_astore 2 (d_sw (BL_16 N L xs))))))))))
